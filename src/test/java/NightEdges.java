/** VI, and promises 50 to 53: rain by chance, and NIGHTS drawn. */
final class NightEdges extends Edges {
    private static final int LAST_SEED = 2000000000;
    private static final int[] NO_SEEDS = {-1, LAST_SEED + 1, LEAST, MOST};
    private static final long BILLION_TWICE = 1000000000000000000L;

    @Override
    void all() {
        fractions();
        draws();
        nightsOfTheTerm();
        promise50();
        promise51();
        promise52();
        promise52Refused();
        promise53();
    }

    private static OverHill rain(int rain) {
        return told("dance gap 0 odds 0 rain " + rain + ";");
    }

    private static void fraction(String what, long above, long below, long dueAbove, long dueBelow) {
        due(what + ", above", above, dueAbove);
        due(what + ", below", below, dueBelow);
    }

    private static void dry(int rain, int n, long above, long below) {
        fraction("dry " + n + " of rain " + rain, rain(rain).dry(n, 0), rain(rain).dry(n, 1), above, below);
    }

    private static void wet(int rain, int n, int k, long above, long below) {
        fraction("wet " + k + " of " + n + " of rain " + rain, rain(rain).wet(n, k, 0), rain(rain).wet(n, k, 1), above, below);
    }

    private static void fractions() {
        sentence("VI", "FRACTIONS are told in lowest terms (0 / 1)", () -> {
            dry(100, 1, 0, 1);
            dry(100, 9, 0, 1);
            dry(0, 1, 1, 1);
            dry(50, 9, 1, 512);
            dry(75, 1, 1, 4);
            wet(0, 9, 9, 0, 1);
            wet(50, 9, 4, 63, 256);
            wet(100, 1, 0, 0, 1);
        });
        sentence("VI", "Rain: in each BEAT so often in a hundred (rain), each apart", () -> {
            wet(1, 1, 1, 1, 100);
            wet(99, 1, 1, 99, 100);
            wet(20, 2, 2, 1, 25);
            wet(20, 2, 1, 8, 25);
            wet(20, 2, 0, 16, 25);
        });
    }

    private static void draws() {
        sentence("VI", "DRAWS: x becomes (1103515245 x + 12345) modulo 2,147,483,648 (at first it is the seed); a draw: x / 65536, cut, modulo 100", () -> {
            // seed 0: x is 12345 (draw 0), then 1406932606 (21468: draw 68), then 654583775 (9988: draw 88)
            due("0 is not below 0", rain(0).drawn(0, 1, 2), 0);
            due("0 is below 1", rain(1).drawn(0, 1, 2), 1);
            due("68 is not below 68", rain(68).drawn(0, 2, 2), 1);
            due("68 is below 69", rain(69).drawn(0, 2, 2), 2);
            due("88 is not below 88", rain(88).drawn(0, 3, 2), 2);
            due("88 is below 89", rain(89).drawn(0, 3, 2), 3);
            // seed 2,000,000,000: x is 216544313 (3304: draw 4)
            due("4 is not below 4", rain(4).drawn(LAST_SEED, 1, 2), 0);
            due("4 is below 5", rain(5).drawn(LAST_SEED, 1, 2), 1);
            // seed 5: x is 1222621274 (18655 and a bit more: draw 55)
            due("55 is not below 55", rain(55).drawn(5, 1, 2), 0);
            due("55 is below 56", rain(56).drawn(5, 1, 2), 1);
            // of seed 194 the first draw is 99
            due("99 is not below 99", rain(99).drawn(194, 1, 2), 0);
            due("99 is below 100", rain(100).drawn(194, 1, 2), 1);
            // of seed 1: 38 58 13 15 51 27 10 19
            due("seed 1", rain(20).drawn(1, 8, 2), 4);
        });
    }

    private static void nightsOfTheTerm() {
        sentence("VI", "ROUNDS as in II without STUMBLES and MUD told", () -> {
            OverHill x = told(CALM + "stumble 0 at 0 does 2 lag 0;mud 1;");
            due("no HOLE by a STUMBLE", x.drawn(0, 100, 0), 0);
            due("no MUD", x.drawn(0, 100, 2), 0);
            // 2 is in PLACE 1 of SIDE 0: with begins 1 danced in BEATS 0, 2, ..
            String two = "round 0 of 0 2 begins 1;round 1 of 1 begins 0;answers 2;";
            due("begins", told(HEAD + two).drawn(0, 1, 0), 1);
            due("and goes on", told(HEAD + two).drawn(0, 100, 0), 50);
            String other = "round 1 of 0 2 begins 1;round 0 of 1 begins 0;answers 2;";
            OverHill y = told(HEAD + other);
            due("SIDE 1 begins", y.drawn(0, 1, 0), 1);
            due("and goes on", y.drawn(0, 100, 0), 50);
            due("and begins again", y.drawn(1, 1, 0), 1);
            // 0 may not be met by 1: SIDE 0 hears it, SIDE 1 does not; and turned round
            due("SIDE 0 hears SIDE 1", told(HEAD + "round 0 of 0 begins 0;round 1 of 1 begins 0;answers 0 0 2 3 4 5;").drawn(0, 100, 0), 100);
            due("SIDE 1 hears SIDE 0", told(HEAD + "round 0 of 1 begins 0;round 1 of 0 begins 0;answers 0 0 2 3 4 5;").drawn(0, 100, 0), 100);
            // of seed 0 with rain 1 BEAT 0 is MUD (draw 0): SIDE 0 stays, and dances 2 in BEAT 1
            OverHill mud = told("dance gap 0 odds 0 rain 1;" + two);
            due("MUD", mud.drawn(0, 2, 2), 1);
            due("it stays in MUD", mud.drawn(0, 2, 1), 1);
            // gap 20: none is heard ahead of BEAT 20
            OverHill far = told("dance gap 20 odds 0 rain 0;round 0 of 2 begins 0;round 1 of 2 begins 0;answers 2;");
            due("none is heard yet", far.drawn(0, 20, 0), 0);
            due("both", far.drawn(0, 21, 0), 2);
            due("the first", far.drawn(0, 100, 1), 20);
        });
        sentence("VI", "a draw: below rain it is MUD; else SIDE 0, SIDE 1, each with a ROUND, a draw: below odds it slips: it dances the next STEP by number (5: 0) in place of its own",
            () -> {
                // seed 1: 38 58 13 15 51 27 10 19: BEAT 0 takes 38 (no MUD), 58 (SIDE 0), 13 (SIDE 1 slips), BEAT 1 takes 15: MUD
                String both = "dance gap 0 odds 20 rain 20;round 0 of 0 begins 0;round 1 of 1 begins 0;answers 2;";
                due("SIDE 1 slips into 2", told(both).drawn(1, 1, 0), 1);
                due("slips", told(both).drawn(1, 1, 3), 1);
                due("MUD takes one draw", told(both).drawn(1, 2, 2), 1);
                // BEAT 2 takes 51, 27 and 10: SIDE 1 slips, BEAT 3 takes 19: MUD
                due("slips", told(both).drawn(1, 4, 3), 2);
                due("MUD", told(both).drawn(1, 4, 2), 2);
                // SIDE 0 alone: 38 58, 13, 15, 51 27, 10, 19
                OverHill one = told("dance gap 0 odds 20 rain 20;round 0 of 0 begins 0;");
                due("one ROUND: MUD", one.drawn(1, 6, 2), 4);
                due("one ROUND: slips", one.drawn(1, 6, 3), 0);
                due("the other ROUND: MUD", told("dance gap 0 odds 59 rain 20;round 1 of 0 begins 0;").drawn(1, 6, 2), 4);
                due("the other ROUND: slips", told("dance gap 0 odds 59 rain 20;round 1 of 0 begins 0;").drawn(1, 6, 3), 2);
                due("no ROUND: each BEAT one draw", told("dance gap 0 odds 100 rain 20;").drawn(1, 8, 2), 4);
                due("no ROUND slips", told("dance gap 0 odds 100 rain 20;").drawn(1, 8, 3), 0);
                due("odds 0", told(CALM).drawn(1, 100, 3), 0);
                // by seed 0 SIDE 0 draws 68 and SIDE 1 draws 88
                String slips = " rain 0;round 0 of 0 begins 0;round 1 of 1 begins 0;";
                due("68 is not below 68", told("dance gap 0 odds 68" + slips).drawn(0, 1, 3), 0);
                due("68 is below 69", told("dance gap 0 odds 69" + slips).drawn(0, 1, 3), 1);
                due("88 is below 89", told("dance gap 0 odds 89" + slips).drawn(0, 1, 3), 2);
                for (int step = 0; step < 6; step++) {
                    int next = step == 5 ? 0 : step + 1;
                    String rounds = "round 0 of " + step + " begins 0;round 1 of " + step + " begins 0;answers " + next + ";";
                    due(step + " slips into " + next, told("dance gap 0 odds 100 rain 0;" + rounds).drawn(7, 10, 0), 20);
                    due(step + " does not slip", told(HEAD + rounds).drawn(7, 10, 0), 0);
                }
            });
        sentence("VI", "BEAT by BEAT", () -> {
            OverHill x = told("dance gap 0 odds 20 rain 20;round 0 of 0 begins 0;round 1 of 1 begins 0;");
            // of seed 1 BEATS 1, 3 and 4 are MUD
            int[] muds = {0, 1, 1, 2, 3};
            for (int n = 1; n <= 5; n++) {
                due("MUD of " + n, x.drawn(1, n, 2), muds[n - 1]);
            }
        });
    }

    private static void promise50() {
        sentence("50", "the chance that it does not rain in n (1 .. 9) BEATS, above (what 0), below (1)", () -> {
            dry(0, 1, 1, 1);
            dry(0, 9, 1, 1);
            dry(100, 1, 0, 1);
            dry(100, 9, 0, 1);
            dry(1, 1, 99, 100);
            dry(1, 9, 913517247483640899L, BILLION_TWICE);
            dry(99, 9, 1, BILLION_TWICE);
            dry(25, 3, 27, 64);
            dry(10, 9, 387420489, 1000000000);
        });
        sentence("50", "-2: there are none such, no DANCE", () -> {
            for (int rain : new int[] {0, 20, 100}) {
                OverHill x = rain(rain);
                for (int n : new int[] {-1, 0, 10, LEAST, MOST}) {
                    due("dry(" + n + ", 0)", x.dry(n, 0), -2);
                    due("dry(" + n + ", 1)", x.dry(n, 1), -2);
                }
                for (int what : NO_WHATS) {
                    due("dry(1, " + what + ")", x.dry(1, what), -2);
                    due("dry(9, " + what + ")", x.dry(9, what), -2);
                }
            }
            due("no DANCE", new OverHill().dry(1, 0), -2);
            due("no DANCE", new OverHill().dry(9, 1), -2);
        });
    }

    private static void promise51() {
        sentence("51", "The chance that it rains in k of n BEATS just, above, below", () -> {
            wet(0, 1, 0, 1, 1);
            wet(0, 1, 1, 0, 1);
            wet(0, 9, 0, 1, 1);
            wet(0, 9, 9, 0, 1);
            wet(100, 1, 0, 0, 1);
            wet(100, 1, 1, 1, 1);
            wet(100, 9, 8, 0, 1);
            wet(100, 9, 9, 1, 1);
            wet(25, 3, 0, 27, 64);
            wet(25, 3, 1, 27, 64);
            wet(25, 3, 2, 9, 64);
            wet(25, 3, 3, 1, 64);
            wet(1, 9, 1, 83047022498512809L, BILLION_TWICE);
            wet(1, 9, 9, 1, BILLION_TWICE);
            wet(99, 9, 9, 913517247483640899L, BILLION_TWICE);
            wet(99, 9, 8, 83047022498512809L, BILLION_TWICE);
            wet(50, 9, 5, 63, 256);
        });
        sentence("51", "-2 likewise, no such k", () -> {
            OverHill x = rain(20);
            for (int n = 1; n <= 9; n++) {
                for (int k : new int[] {-1, n + 1, LEAST, MOST}) {
                    due("wet(" + n + ", " + k + ", 0)", x.wet(n, k, 0), -2);
                }
            }
            for (int n : new int[] {-1, 0, 10, LEAST, MOST}) {
                due("wet(" + n + ", 0, 1)", x.wet(n, 0, 1), -2);
                due("wet(" + n + ", n, 1)", x.wet(n, n, 1), -2);
            }
            for (int what : NO_WHATS) {
                due("wet(3, 1, " + what + ")", x.wet(3, 1, what), -2);
            }
            due("no DANCE", new OverHill().wet(1, 0, 0), -2);
        });
    }

    private static void promise52() {
        sentence("52", "drawn (VI) from a seed (0 .. 2,000,000,000), n (1 .. 100) BEATS, what 0: HOLES of both SIDES, 1: the first BEAT with one (NONE), 2: MUD, 3: slips",
            () -> {
                String both = "round 0 of 2 begins 0;round 1 of 2 begins 0;answers 2;";
                for (int seed : new int[] {0, 1, LAST_SEED - 1, LAST_SEED}) {
                    OverHill x = told("dance gap 1 odds 0 rain 0;" + both);
                    due("HOLES of one BEAT, none is heard yet", x.drawn(seed, 1, 0), 0);
                    due("none is the first", x.drawn(seed, 1, 1), NONE);
                    due("HOLES of two", x.drawn(seed, 2, 0), 2);
                    due("HOLES of a hundred", x.drawn(seed, 100, 0), 198);
                    due("the first", x.drawn(seed, 100, 1), 1);
                    due("no MUD", x.drawn(seed, 100, 2), 0);
                    due("no slip", x.drawn(seed, 100, 3), 0);
                    OverHill mud = told("dance gap 0 odds 100 rain 100;" + both);
                    due("MUD alone", mud.drawn(seed, 100, 2), 100);
                    due("MUD of one", mud.drawn(seed, 1, 2), 1);
                    due("no HOLE in MUD", mud.drawn(seed, 100, 0), 0);
                    due("none is the first", mud.drawn(seed, 100, 1), NONE);
                    due("no slip in MUD", mud.drawn(seed, 100, 3), 0);
                    OverHill slips = told("dance gap 0 odds 100 rain 0;" + both);
                    due("both slip", slips.drawn(seed, 100, 3), 200);
                    due("both slip once", slips.drawn(seed, 1, 3), 2);
                    due("no HOLE by 3", slips.drawn(seed, 100, 0), 0);
                    OverHill at = told(HEAD + both);
                    due("in BEAT 0", at.drawn(seed, 1, 1), 0);
                }
                // 2 in the last of twelve PLACES, three behind begins: in BEATS 3, 15, .. 99
                OverHill last = told(HEAD + "round 0 of " + steps(11, "0") + "2 begins 8;round 1 of 1 begins 0;answers 2;");
                due("up to BEAT 98", last.drawn(0, 99, 0), 8);
                due("up to BEAT 99", last.drawn(0, 100, 0), 9);
                due("of three", last.drawn(0, 3, 1), NONE);
                due("of four", last.drawn(0, 4, 1), 3);
            });
    }

    private static void promise52Refused() {
        sentence("52", "-2: there are none such, no DANCE", () -> {
            OverHill x = told(CALM);
            for (int seed : NO_SEEDS) {
                due("seed " + seed, x.drawn(seed, 1, 0), -2);
            }
            for (int n : new int[] {-1, 0, 101, LEAST, MOST}) {
                due("n " + n, x.drawn(0, n, 0), -2);
                due("n " + n, x.drawn(LAST_SEED, n, 3), -2);
            }
            for (int what : new int[] {-1, 4, LEAST, MOST}) {
                due("what " + what, x.drawn(0, 1, what), -2);
            }
            for (int what = 0; what < 4; what++) {
                due("no DANCE", new OverHill().drawn(0, 1, what), -2);
            }
        });
    }

    private static void promise53() {
        sentence("53", "Of m (1 .. 20) such from seeds, the seed and 1, .., in how many there is no HOLE", () -> {
            OverHill calm = told(CALM);
            due("one", calm.nights(0, 1, 1), 1);
            due("twenty", calm.nights(0, 20, 100), 20);
            due("one of the last seed", calm.nights(LAST_SEED, 1, 100), 1);
            due("twenty from the last seed on", calm.nights(LAST_SEED, 20, 100), 20);
            OverHill holes = told(HEAD + "round 0 of 2 begins 0;round 1 of 2 begins 0;answers 2;");
            due("none", holes.nights(0, 20, 1), 0);
            due("none", holes.nights(LAST_SEED, 20, 100), 0);
            // a HOLE in the one BEAT, but in MUD: the first draw of seed 0 is 0, that of seed 1 is 38
            due("seed 0 is MUD", told("dance gap 0 odds 0 rain 1;round 0 of 2 begins 0;round 1 of 2 begins 0;answers 2;").nights(0, 1, 1), 1);
            due("seeds 0 .. 1, one of them MUD", told("dance gap 0 odds 0 rain 38;round 0 of 2 begins 0;round 1 of 2 begins 0;answers 2;").nights(0, 2, 1), 1);
            due("seeds 0 .. 1, both MUD", told("dance gap 0 odds 0 rain 39;round 0 of 2 begins 0;round 1 of 2 begins 0;answers 2;").nights(0, 2, 1), 2);
            due("seed 1 alone", told("dance gap 0 odds 0 rain 38;round 0 of 2 begins 0;round 1 of 2 begins 0;answers 2;").nights(1, 1, 1), 0);
            // as many as there are of the twenty, each asked alone
            OverHill x = told("dance gap 0 odds 0 rain 50;round 0 of 2 begins 0;round 1 of 2 begins 0;answers 2;");
            int alone = 0;
            for (int seed = 7; seed < 27; seed++) {
                alone += x.drawn(seed, 2, 0) == 0 ? 1 : 0;
            }
            due("each alone", x.nights(7, 20, 2), alone);
        });
        sentence("53", "-2 likewise, no such m", () -> {
            OverHill x = told(CALM);
            for (int m : new int[] {-1, 0, 21, LEAST, MOST}) {
                due("m " + m, x.nights(0, m, 1), -2);
            }
            for (int seed : NO_SEEDS) {
                due("seed " + seed, x.nights(seed, 1, 1), -2);
            }
            for (int n : new int[] {-1, 0, 101, LEAST, MOST}) {
                due("n " + n, x.nights(0, 1, n), -2);
            }
            due("no DANCE", new OverHill().nights(0, 1, 1), -2);
        });
    }
}
