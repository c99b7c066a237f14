/** III, and promises 29 to 33: who stumbled, by what was heard, and when to listen. */
final class GuessEdges extends Edges {
    /** SIDE 1 dances 0 in every BEAT, heard at once. */
    private static final String ALWAYS = HEAD + "round 1 of 0 begins 0;";
    /** SIDE 1 dances 0 and 1 by turns, heard two BEATS later. */
    private static final String BY_TURNS = "dance gap 2 odds 0 rain 0;round 1 of 0 1 begins 0;";
    /** STEP 4 is in one PLACE of twelve: where it is heard, it tells the lag. */
    private static final String TWELVE = HEAD + "round 1 of 0 1 2 3 4 5 0 0 0 0 0 0 begins 0;";
    private static final int[] OF_TWELVE = {0, 1, 2, 3, 4, 5, 0, 0, 0, 0, 0, 0};

    private static final int ALL = 3601;
    private static final long SIXTY = (1L << 60) - 1;

    @Override
    void all() {
        stumblesThatFit();
        asWithout();
        heardBeats();
        promise29();
        promise29Refused();
        promise30();
        promise31();
        promise32();
        promise33();
    }

    /** What the five calls answer of SLOT 0, for a SIDE. */
    private static void guessed(String what, OverHill x, int side, long heard, long first, long when, long listen, long leaves) {
        due(what + ": heard", x.heard(0, side), heard);
        due(what + ": first", x.first(0, side), first);
        due(what + ": when", x.when(0, side), when);
        due(what + ": listen", x.listen(0, side), listen);
        due(what + ": leaves", x.leaves(0, side), leaves);
    }

    private static void noneFits(String what, OverHill x, int side) {
        guessed(what, x, side, 0, NONE, 0, NONE, 0);
    }

    private static String mudUpTo(int last) {
        StringBuilder text = new StringBuilder();
        for (int beat = 0; beat <= last; beat++) {
            text.append("mud ").append(beat).append(';');
        }
        return text.toString();
    }

    private static void stumblesThatFit() {
        sentence("III", "A STUMBLE that fits: a BEAT 0 .. 59, a STEP 0 .. 5, a lag 0 .. 9", () -> {
            due("all of them, and none at all", withRow(ALWAYS).heard(0, 0), 60 * 6 * 10 + 1);
            for (int step = 1; step <= 5; step++) {
                for (int beat : new int[] {0, 1, 58, 59}) {
                    OverHill x = withRow(ALWAYS, beat, step);
                    due("lags in BEAT " + beat, x.heard(0, 0), 10);
                    due("BEAT " + beat, x.when(0, 0), 1L << beat);
                }
                noneFits("BEAT 60", withRow(ALWAYS, 60, step), 0);
                noneFits("BEAT 199", withRow(ALWAYS, 199, step), 0);
            }
        });
        sentence("III", "its number: 1 and 60 times BEAT and 10 times STEP and lag", () -> {
            for (int beat : new int[] {0, 1, 30, 58, 59}) {
                for (int lag = 0; lag <= 9; lag++) {
                    // the first BEAT behind it that is in PLACE 4 by that lag
                    int tells = beat + 1 + Math.floorMod(4 + lag - beat - 1, 12);
                    for (int step = 0; step <= 5; step++) {
                        boolean another = step == OF_TWELVE[beat % 12] || step == OF_TWELVE[Math.floorMod(beat - lag, 12)];
                        if (!another) {
                            OverHill x = withRow(TWELVE, beat, step, tells, 4);
                            due("one alone", x.heard(0, 0), 1);
                            due("its number", x.first(0, 0), 1 + 60 * beat + 10 * step + lag);
                            due("its BEAT", x.when(0, 0), 1L << beat);
                        }
                    }
                }
            }
            due("the least", withRow(HEAD + "round 1 of 1 begins 0;", 0, 0).first(0, 0), 1);
            due("the largest", withRow(TWELVE, 59, 5, 61, 4).first(0, 0), 3600);
        });
    }

    private static void asWithout() {
        sentence("III", "By it (in place of the STUMBLES of that SIDE) the SIDE dances (by II, MUD as it is)", () -> {
            String told = "stumble 1 at 7 does 4 lag 0;stumble 1 at 8 does 4 lag 1;";
            due("those told are none", withRow(ALWAYS + told, 7, 0).heard(0, 0), ALL - 50);
            due("one alone", withRow(ALWAYS + told, 7, 4).heard(0, 0), 10);
            noneFits("not two", withRow(ALWAYS + told, 7, 4, 8, 4), 0);
            due("of the SIDE that hears, too", withRow(ALWAYS + "round 0 of 0 begins 0;stumble 0 at 7 does 4 lag 0;", 7, 0).heard(0, 0), ALL - 50);
            // BEAT 5 is MUD: it dances none then, and is a PLACE later in BEAT 6
            OverHill mud = withRow("dance gap 0 odds 0 rain 0;round 1 of 0 1 begins 0;mud 5;", 5, -1, 6, 1);
            due("MUD", mud.first(0, 0), 0);
            noneFits("a STEP in MUD", withRow(ALWAYS + "mud 5;", 5, 0), 0);
            // a STUMBLE in MUD is none, so all 60 fit there; in other BEATS heard 10 do, behind them 60
            long[] thirty = new long[60];
            for (int beat = 0; beat < 30; beat++) {
                thirty[2 * beat] = beat;
                thirty[2 * beat + 1] = beat == 5 ? -1 : 0;
            }
            due("a STUMBLE in MUD", withRow(ALWAYS + "mud 5;", thirty).heard(0, 0), 1 + 60 + 29 * 10 + 30 * 60);
            due("a STUMBLE in MUD, and a STEP that is not as without", withRow(ALWAYS + "mud 5;", 5, -1, 6, 3).when(0, 0), 1 << 6);
            noneFits("no ROUND", withRow(HEAD, 5, 3), 0);
            due("no ROUND", withRow(HEAD, 5, -1).heard(0, 0), ALL);
        });
        sentence("III", "none at all: as without", () -> {
            OverHill x = withRow(BY_TURNS, 2, 0, 3, 1, 198, 0, 199, 1);
            due("it fits", x.first(0, 0), 0);
            due("it does not", withRow(BY_TURNS, 2, 1, 3, 1, 198, 0, 199, 1).first(0, 0), 1 + 10);
        });
    }

    private static void heardBeats() {
        sentence("III", "HEARD are BEATS 0 .. 199", () -> {
            due("BEAT 0", withRow(ALWAYS, 0, 0).heard(0, 0), ALL - 50);
            due("BEAT 199", withRow(ALWAYS, 199, 0).heard(0, 0), ALL);
            due("BEAT -1", withRow(ALWAYS, -1, 0).heard(0, 0), -2);
            due("BEAT 200", withRow(ALWAYS, 200, 0).heard(0, 0), -2);
            // by turns: in BEAT 199 those of an odd lag are heard as 0
            due("BEAT 199 tells the lag", withRow(BY_TURNS, 199, 0).heard(0, 0), 60 * 30);
            due("BEAT 199 tells the lag", withRow(BY_TURNS, 199, 1).heard(0, 0), 60 * 30 + 1);
        });
    }

    private static void promise29() {
        sentence("29", "two numbers each: a BEAT, the STEP (NONE: none) that a SIDE heard in it", () -> {
            due("BEAT 5, STEP 3", withRow(ALWAYS, 5, 3).first(0, 0), 1 + 300 + 30);
            due("BEAT 3, STEP 5", withRow(ALWAYS, 3, 5).first(0, 0), 1 + 180 + 50);
            due("none ahead of the gap", withRow(BY_TURNS, 0, -1, 1, -1).heard(0, 0), ALL);
            noneFits("a STEP ahead of the gap", withRow(BY_TURNS, 1, 0), 0);
            noneFits("none behind the gap", withRow(BY_TURNS, 2, -1), 0);
            OverHill full = withRow(ALWAYS, new long[60]);
            putRow(full, 1, 2, 777, 777);
            due("thirty pairs, and not the next row", full.heard(0, 0), ALL - 50);
            // one row behind the other, on one object
            OverHill x = told(BY_TURNS);
            putRow(x, 0, 1, 0, 0);
            noneFits("a STEP ahead of the gap", x, 0);
            putRow(x, 0, 1);
            guessed("then nothing heard", x, 0, ALL, 0, SIXTY, 61, 1781);
            putRow(x, 0, 1, 7, 3, 199, 0);
            guessed("then BEATS 7 and 199", x, 0, 5, 1 + 300 + 30 + 1, 1 << 5, NONE, 5);
            putRow(x, 0, 1);
            guessed("then nothing heard again", x, 0, ALL, 0, SIXTY, 61, 1781);
        });
        sentence("29", "STUMBLES (III) of the other SIDE, one alone in place of all of its, that fit all", () -> {
            OverHill x = withRow(HEAD + "round 0 of 3 begins 0;round 1 of 0 begins 0;", 5, 0);
            due("SIDE 0 hears SIDE 1", x.heard(0, 0), ALL - 50);
            due("SIDE 1 hears SIDE 0", x.heard(0, 1), 10);
            due("both alike", withRow(ALWAYS, 5, 3, 5, 3).heard(0, 0), 10);
            noneFits("both unlike", withRow(ALWAYS, 5, 3, 5, 2), 0);
            noneFits("two BEATS", withRow(ALWAYS, 5, 3, 6, 3), 0);
            due("ahead as without", withRow(ALWAYS, 4, 0, 5, 3).heard(0, 0), 10);
            due("the last tells", withRow(ALWAYS, 5, 3, 4, 0, 6, 0, 7, 1).heard(0, 0), 0);
        });
        sentence("29", "(none at all, too: one more)", () -> {
            OverHill x = withRow(ALWAYS);
            guessed("an empty row", x, 0, ALL, 0, SIXTY, 0, ALL - 50);
            due("no ROUND", withRow(HEAD).heard(0, 0), ALL);
            due("not where it does not fit", withRow(ALWAYS, 0, 5).heard(0, 0), 10);
        });
    }

    private static void promise29Refused() {
        sentence("29", "-2: there is no such SLOT, SIDE, no DANCE, a number is none such (asked last), not two each", () -> {
            OverHill x = withRow(ALWAYS, 5, 3);
            for (int slot : NO_SLOTS) {
                refused("SLOT " + slot, x, slot, 0, -2);
                refused("SLOT " + slot + ", nor SIDE", x, slot, 2, -2);
            }
            for (int side : NO_SIDES) {
                refused("SIDE " + side, x, 0, side, -2);
                refused("SIDE " + side + " of nothing", x, 1, side, -2);
            }
            refused("no DANCE", withRow("", 5, 3), 0, 0, -2);
            refused("no DANCE, nothing", new OverHill(), 0, 0, -2);
            long[][] rows = {{-1, 0}, {200, 0}, {0, -2}, {0, 6}, {5, 3, 200, 0}, {5, 3, 0, 6}, {5}, {5, 3, 5}, new long[59], {MOST, 0}, {0, LEAST}};
            for (long[] row : rows) {
                refused("a row of " + row.length, withRow(ALWAYS, row), 0, 0, -2);
            }
            OverHill wide = told(ALWAYS);
            putRow(wide, 0, 3, (1L << 32) + 5, 3);
            refused("a BEAT of eight bytes", wide, 0, 0, -2);
            putRow(wide, 0, 3, 5, (1L << 32) + 3);
            refused("a STEP of eight bytes", wide, 0, 0, -2);
        });
        sentence("29", "-6: it has nothing", () -> {
            OverHill x = told(ALWAYS);
            for (int slot = 0; slot < 4; slot++) {
                refused("SLOT " + slot, x, slot, 0, -6);
                refused("SLOT " + slot, x, slot, 1, -6);
            }
            x.row(2, 1, 0);
            due("an empty row is something", x.heard(2, 0), ALL);
            refused("the next one", x, 3, 0, -6);
        });
    }

    private static void refused(String what, OverHill x, int slot, int side, int by) {
        due(what + ": heard", x.heard(slot, side), by);
        due(what + ": first", x.first(slot, side), by);
        due(what + ": when", x.when(slot, side), by);
        due(what + ": listen", x.listen(slot, side), by);
        due(what + ": leaves", x.leaves(slot, side), by);
    }

    private static void promise30() {
        sentence("30", "The least number of these: 0: none at all; else of a STUMBLE (III)", () -> {
            due("0", withRow(ALWAYS).first(0, 0), 0);
            due("the least of ten lags", withRow(ALWAYS, 59, 1).first(0, 0), 1 + 60 * 59 + 10);
            // 4 is heard by a STUMBLE of its own BEAT, or by a lag of 1 of an earlier one: number 2 is the least
            due("the least of many BEATS", withRow(TWELVE, 5, 4).first(0, 0), 2);
            due("the least of STEPS", withRow(TWELVE, 5, 4, 0, 0).first(0, 0), 2);
            due("the least of BEATS", withRow(TWELVE, 5, 4, 1, 1).first(0, 0), 62 + 10);
        });
        sentence("30", "NONE: none fits", () -> {
            due("two unlike", withRow(ALWAYS, 5, 3, 5, 4).first(0, 0), NONE);
            due("BEAT 60", withRow(ALWAYS, 60, 1).first(0, 0), NONE);
        });
        sentence("30", "-2, -6 likewise", () -> {
            OverHill x = withRow(ALWAYS, 5, 6);
            due("no STEP", x.first(0, 0), -2);
            due("nothing", x.first(1, 0), -6);
            due("no SIDE, nothing", x.first(1, 2), -2);
            due("no SLOT", x.first(4, 0), -2);
            due("no DANCE", new OverHill().first(0, 0), -2);
        });
    }

    private static void promise31() {
        sentence("31", "BEATS (0 .. 59) of all of these that are STUMBLES, as bits", () -> {
            due("all sixty", withRow(ALWAYS).when(0, 0), 1152921504606846975L);
            due("BEAT 0", withRow(ALWAYS, 0, 1).when(0, 0), 1L);
            due("BEAT 31", withRow(ALWAYS, 31, 1).when(0, 0), 2147483648L);
            due("BEAT 32", withRow(ALWAYS, 32, 1).when(0, 0), 4294967296L);
            due("BEAT 59", withRow(ALWAYS, 59, 1).when(0, 0), 576460752303423488L);
            due("none", withRow(ALWAYS, 60, 1).when(0, 0), 0);
            // by a lag of 1 of BEATS 0 .. 4, or by a STUMBLE of BEAT 5
            due("BEATS 0 .. 5", withRow(TWELVE, 5, 4).when(0, 0), 63);
        });
        sentence("31", "-2, -6 likewise", () -> {
            OverHill x = withRow(ALWAYS, 5, 6);
            due("no STEP", x.when(0, 0), -2);
            due("nothing", x.when(1, 0), -6);
            due("no SIDE, nothing", x.when(1, -1), -2);
            due("no SLOT", x.when(-1, 0), -2);
            due("no DANCE", new OverHill().when(0, 0), -2);
        });
    }

    private static void promise32() {
        sentence("32", "the BEAT (0 .. 79) whose STEP heard leaves fewest of these at worst, if fewer than now, the first of several", () -> {
            due("BEAT 0, of sixty alike", withRow(ALWAYS).listen(0, 0), 0);
            due("BEAT 1, as BEAT 0 is known", withRow(ALWAYS, 0, 0).listen(0, 0), 1);
            // by turns, danced in BEAT 59: 1 by none, its own 10 and 59 times 30; in 60 there are 60 times 30
            due("BEAT 61", withRow(BY_TURNS).listen(0, 0), 61);
            // even lags alone are left, 30 of each BEAT and none: of BEAT 0 five are heard as without
            due("BEAT 2, of sixty alike", withRow(BY_TURNS, 199, 1).listen(0, 0), 2);
            due("BEAT 2 leaves", withRow(BY_TURNS, 199, 1).leaves(0, 0), 60 * 30 + 1 - 25);
            // MUD up to BEAT 58: what is danced in BEAT 59 tells most, its lag is told by BEAT 60
            for (int gap = 0; gap <= 20; gap++) {
                String text = "dance gap " + gap + " odds 0 rain 0;round 1 of 0 1 begins 0;" + mudUpTo(58);
                due("gap " + gap, withRow(text).listen(0, 0), 59 + gap);
                due("its lag, gap " + gap, withRow(text, 59 + gap, 3).listen(0, 0), gap < 20 ? 60 + gap : NONE);
            }
        });
        sentence("32", "NONE: none", () -> {
            due("one is left", withRow(TWELVE, 59, 5, 61, 4).listen(0, 0), NONE);
            due("none is left", withRow(ALWAYS, 60, 1).listen(0, 0), NONE);
            due("ten that none tells apart", withRow(ALWAYS, 5, 3).listen(0, 0), NONE);
            due("no ROUND", withRow(HEAD).listen(0, 0), NONE);
            due("BEAT 80 is beyond", withRow("dance gap 20 odds 0 rain 0;round 1 of 0 1 begins 0;" + mudUpTo(59)).listen(0, 0), NONE);
        });
        sentence("32", "-2, -6 likewise", () -> {
            OverHill x = withRow(ALWAYS, 5, 6);
            due("no STEP", x.listen(0, 0), -2);
            due("nothing", x.listen(1, 0), -6);
            due("no SIDE, nothing", x.listen(1, 2), -2);
            due("no SLOT", x.listen(4, 0), -2);
            due("no DANCE", new OverHill().listen(0, 0), -2);
        });
    }

    private static void promise33() {
        sentence("33", "How many it leaves at worst (as now without)", () -> {
            due("fifty less", withRow(ALWAYS).leaves(0, 0), ALL - 50);
            due("fifty less again", withRow(ALWAYS, 0, 0).leaves(0, 0), ALL - 100);
            due("by turns", withRow(BY_TURNS).leaves(0, 0), 1 + 10 + 59 * 30);
            due("even or odd lags", withRow(BY_TURNS, 7, 3).leaves(0, 0), 5);
            due("as now: ten", withRow(ALWAYS, 5, 3).leaves(0, 0), 10);
            due("as now: one", withRow(TWELVE, 59, 5, 61, 4).leaves(0, 0), 1);
            due("as now: none", withRow(ALWAYS, 60, 1).leaves(0, 0), 0);
            due("as now: all", withRow(HEAD).leaves(0, 0), ALL);
            String text = "round 1 of 0 1 begins 0;" + mudUpTo(58);
            due("BEAT 79", withRow("dance gap 19 odds 0 rain 0;" + text, 78, 3).leaves(0, 0), 5);
            due("BEAT 80", withRow("dance gap 20 odds 0 rain 0;" + text, 79, 3).leaves(0, 0), 10);
        });
        sentence("33", "-2, -6 likewise", () -> {
            OverHill x = withRow(ALWAYS, 5, 6);
            due("no STEP", x.leaves(0, 0), -2);
            due("nothing", x.leaves(1, 0), -6);
            due("no SIDE, nothing", x.leaves(1, 2), -2);
            due("no SLOT", x.leaves(4, 0), -2);
            due("no DANCE", new OverHill().leaves(0, 0), -2);
        });
    }
}
