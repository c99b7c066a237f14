/** Promises 54 to 60: changes, what is counted, and IMAGES. */
final class ChangeEdges extends Edges {
    private static final String SEVEN = CALM + "stumble 0 at 0 does 2 lag 0;stumble 0 at 1 does 2 lag 0;stumble 0 at 2 does 2 lag 0;"
        + "stumble 0 at 3 does 2 lag 0;stumble 1 at 0 does 2 lag 0;stumble 1 at 1 does 2 lag 0;stumble 1 at 2 does 2 lag 0;";

    @Override
    void all() {
        promise54();
        promise54Refused();
        promise55();
        promise56();
        promise57();
        promise58();
        promise59();
        promise60();
    }

    private static void promise54() {
        sentence("54", "A STUMBLE comes: its number", () -> {
            OverHill x = told(CALM);
            for (int k = 0; k < 8; k++) {
                due("number " + k, x.stumble(k % 2, 199 - k / 2, 2, 9), k);
                due("STUMBLES", x.count(5), k + 1);
                due("changes", x.count(9), k + 1);
            }
            int[] last = {1, 196, 2, 9};
            for (int what = 0; what < 4; what++) {
                due("the last, what " + what, x.stumbled(7, what), last[what]);
            }
            due("danced", x.danced(1, 196), 2);
            due("a HOLE", x.hole(1, 196), 1);
            due("undoes", x.undoes(7), 1);
            due("the least of all", told(CALM).stumble(0, 0, 0, 0), 0);
            due("the largest of all", told(CALM).stumble(1, 199, 5, 9), 0);
            due("behind those told", told(CALM + "stumble 0 at 3 does 2 lag 0;").stumble(0, 4, 2, 0), 1);
            OverHill lag = told(HEAD + "round 0 of 1 2 3 begins 0;");
            due("ahead of it", lag.place(0, 1), 1);
            due("ahead of it", lag.danced(0, 0), 1);
            due("its number", lag.stumble(0, 0, 5, 2), 0);
            due("its STEP", lag.danced(0, 0), 5);
            due("its lag", lag.place(0, 1), 2);
            OverHill mud = told(CALM + "mud 3;");
            due("in MUD", mud.stumble(0, 3, 2, 0), 0);
            due("in MUD", mud.hole(0, 3), 0);
            due("without a ROUND", told(HEAD).stumble(0, 3, 2, 0), 0);
        });
    }

    private static void promise54Refused() {
        sentence("54", "-5: there were eight, one of that SIDE and BEAT, 40 changes", () -> {
            OverHill eight = told(SEVEN);
            due("the eighth", eight.stumble(1, 3, 2, 0), 7);
            due("eight", eight.stumble(1, 4, 2, 0), -5);
            due("nothing comes", eight.count(5), 8);
            due("no change", eight.count(9), 1);
            OverHill told = told(CALM + "stumble 0 at 3 does 2 lag 1;");
            due("one told", told.stumble(0, 3, 4, 0), -5);
            due("it stays", told.stumbled(0, 2), 2);
            due("of the other SIDE", told.stumble(1, 3, 4, 0), 1);
            due("one that came", told.stumble(1, 3, 5, 0), -5);
            due("another BEAT", told.stumble(0, 2, 4, 0), 2);
            due("changes", told.count(9), 2);
            told.undo();
            due("taken back, it may come", told.stumble(0, 2, 4, 0), 2);
            OverHill forty = fortyChanges();
            due("40 changes", forty.stumble(0, 100, 2, 0), -5);
            due("nothing comes", forty.count(5), 0);
            due("39 changes", forty.undo(), 39);
            due("the fortieth", forty.stumble(0, 100, 2, 0), 0);
            due("40 again", forty.stumble(0, 101, 2, 0), -5);
        });
        sentence("54", "-2: there are none such (lag 0 .. 9)", () -> {
            // -2 of any of them, though there are eight, 40 changes, or one of that SIDE and BEAT
            OverHill[] all = {told(CALM), told(SEVEN + "stumble 1 at 3 does 2 lag 0;"), fortyChanges()};
            for (OverHill x : all) {
                int changes = x.count(9);
                for (int side : NO_SIDES) {
                    due("SIDE " + side, x.stumble(side, 0, 0, 0), -2);
                }
                for (int beat : NO_BEATS) {
                    due("BEAT " + beat, x.stumble(0, beat, 0, 0), -2);
                }
                for (int step : NO_STEPS) {
                    due("STEP " + step, x.stumble(0, 0, step, 0), -2);
                }
                for (int lag : new int[] {-1, 10, LEAST, MOST}) {
                    due("lag " + lag, x.stumble(0, 0, 0, lag), -2);
                }
                due("nothing comes", x.count(9), changes);
            }
            due("lag 9", told(CALM).stumble(0, 0, 0, 9), 0);
            due("no DANCE", new OverHill().stumble(0, 0, 0, 0), -2);
        });
    }

    /** MUD in BEATS 0 .. 39, by 40 changes. */
    private static OverHill fortyChanges() {
        OverHill x = told(CALM);
        for (int beat = 0; beat < 40; beat++) {
            due("change " + (beat + 1), x.mud(beat, 1), 0);
        }
        due("40 changes", x.count(9), 40);
        return x;
    }

    private static void promise55() {
        sentence("55", "A BEAT is MUD (1) or not (0) from now on: what it was", () -> {
            OverHill x = told(CALM + "mud 7;");
            for (int beat : new int[] {0, 199}) {
                due("it was not", x.mud(beat, 1), 0);
                due("it is", x.muddy(beat), 1);
                due("none dances", x.danced(0, beat), NONE);
                due("it was, and is", x.mud(beat, 1), 1);
                due("it was", x.mud(beat, 0), 1);
                due("it is not", x.muddy(beat), 0);
                due("one dances", x.danced(0, beat), 0);
                due("it was not, and is not", x.mud(beat, 0), 0);
            }
            due("told", x.mud(7, 0), 1);
            due("no more", x.muddy(7), 0);
            due("MUD", x.count(6), 0);
            due("all are changes", x.count(9), 9);
        });
        sentence("55", "-5: there were 40 changes", () -> {
            OverHill x = fortyChanges();
            due("mud(40, 1)", x.mud(40, 1), -5);
            due("mud(0, 0)", x.mud(0, 0), -5);
            due("mud(0, 1), as it is", x.mud(0, 1), -5);
            due("nothing happens", x.count(6), 40);
            due("undo()", x.undo(), 39);
            due("one more", x.mud(40, 1), 0);
            due("40 again", x.mud(41, 1), -5);
        });
        sentence("55", "-2: there are none such", () -> {
            for (OverHill x : new OverHill[] {told(CALM), fortyChanges()}) {
                int changes = x.count(9);
                for (int beat : NO_BEATS) {
                    due("mud(" + beat + ", 1)", x.mud(beat, 1), -2);
                }
                for (int is : NO_WHATS) {
                    due("mud(0, " + is + ")", x.mud(0, is), -2);
                }
                due("no change", x.count(9), changes);
            }
            due("no DANCE", new OverHill().mud(0, 0), -2);
        });
    }

    private static void promise56() {
        sentence("56", "A SIDE's ROUND has a STEP at a PLACE from now on: which it had", () -> {
            OverHill x = told(HEAD + "round 0 of 5 4 3 2 1 0 5 4 3 2 1 0 begins 0;round 1 of 3 begins 0;");
            due("danced ahead of it", x.danced(0, 0), 5);
            due("PLACE 0", x.teach(0, 0, 0), 5);
            due("danced at once", x.danced(0, 0), 0);
            due("PLACE 11", x.teach(0, 11, 5), 0);
            due("SIDE 1", x.teach(1, 0, 4), 3);
            due("PLACE 0", x.step(0, 0), 0);
            due("PLACE 11", x.step(0, 11), 5);
            due("PLACE 1", x.step(0, 1), 4);
            due("SIDE 1", x.step(1, 0), 4);
            due("danced", x.danced(0, 11), 5);
            due("danced", x.danced(0, 12), 0);
            due("heard", x.hears(0, 199), 4);
            due("again", x.teach(0, 0, 1), 0);
            due("as it is", x.teach(0, 0, 1), 1);
            due("all are changes", x.count(9), 5);
        });
        sentence("56", "-5, -2 likewise", () -> {
            OverHill forty = fortyChanges();
            due("40 changes", forty.teach(0, 0, 3), -5);
            due("nothing happens", forty.step(0, 0), 0);
            due("undo()", forty.undo(), 39);
            due("one more", forty.teach(0, 0, 3), 0);
            due("40 again", forty.teach(0, 0, 0), -5);
            for (OverHill x : new OverHill[] {told(CALM), fortyChanges()}) {
                int changes = x.count(9);
                for (int side : NO_SIDES) {
                    due("SIDE " + side, x.teach(side, 0, 0), -2);
                }
                for (int place : new int[] {-1, 1, 12, LEAST, MOST}) {
                    due("PLACE " + place, x.teach(0, place, 0), -2);
                    due("PLACE " + place, x.teach(1, place, 0), -2);
                }
                for (int step : NO_STEPS) {
                    due("STEP " + step, x.teach(0, 0, step), -2);
                }
                due("no change", x.count(9), changes);
            }
            due("no ROUND", told(HEAD).teach(0, 0, 0), -2);
            due("no ROUND of SIDE 1", told(HEAD + "round 0 of 3 begins 0;").teach(1, 0, 0), -2);
            due("no DANCE", new OverHill().teach(0, 0, 0), -2);
        });
    }

    private static void promise57() {
        sentence("57", "The latest of these changes is taken back: how many there are", () -> {
            OverHill x = told(CALM + "stumble 0 at 3 does 2 lag 1;mud 7;");
            x.stumble(1, 5, 2, 1);
            x.mud(7, 0);
            x.teach(0, 0, 4);
            x.mud(7, 0);
            x.teach(0, 0, 5);
            x.stumble(0, 5, 2, 1);
            due("the second STUMBLE", x.undo(), 5);
            due("it is gone", x.count(5), 2);
            due("it is not danced", x.danced(0, 5), 5);
            due("5 taught", x.undo(), 4);
            due("as ahead of it", x.step(0, 0), 4);
            due("MUD as it was", x.undo(), 3);
            due("it was none", x.muddy(7), 0);
            due("4 taught", x.undo(), 2);
            due("as told", x.step(0, 0), 0);
            due("as told, danced", x.danced(0, 0), 0);
            due("MUD", x.undo(), 1);
            due("as told", x.muddy(7), 1);
            due("as told, danced", x.danced(0, 7), NONE);
            due("the first STUMBLE", x.undo(), 0);
            due("told ones stay", x.count(5), 1);
            due("told ones stay", x.danced(0, 3), 2);
            due("it is gone", x.danced(1, 5), 1);
            OverHill forty = fortyChanges();
            for (int n = 39; n >= 0; n--) {
                due("undo()", forty.undo(), n);
                due("MUD", forty.count(6), n);
            }
        });
        sentence("57", "-5: there is none", () -> {
            OverHill x = told(CALM + "mud 3;stumble 0 at 3 does 2 lag 1;");
            due("none", x.undo(), -5);
            due("what is told stays", x.count(6) + x.count(5), 2);
            x.mud(3, 0);
            due("one", x.undo(), 0);
            due("none", x.undo(), -5);
            due("none", x.undo(), -5);
            x.stumble(2, 0, 0, 0);
            x.mud(0, 2);
            x.teach(0, 9, 0);
            due("those refused are none", x.undo(), -5);
        });
        sentence("57", "-2: there is no DANCE", () -> {
            due("undo()", new OverHill().undo(), -2);
            OverHill x = told(CALM);
            x.mud(3, 1);
            x.dance();
            due("no DANCE any more", x.undo(), -2);
        });
    }

    private static void promise58() {
        sentence("58", "0 gap, 1 odds, 2 rain, 3, 4 length of SIDE 0's, 1's ROUND (0: none), 5 STUMBLES, 6 MUD, 7 cells of the wood, 8 TUNES, 9 changes, 10 LINES, 11 bytes of the TAPE, 12 SLOTS that have a row",
            () -> {
                OverHill least = told(HEAD);
                for (int what = 0; what <= 12; what++) {
                    due("nothing told: count(" + what + ")", least.count(what), what == 10 ? 1 : 0);
                }
                StringBuilder text = new StringBuilder("dance gap 20 odds 99 rain 98;round 0 of " + steps(12, "3") + "begins 0;round 1 of 3 begins 0;");
                for (int k = 0; k < 8; k++) {
                    text.append("stumble 0 at ").append(k).append(" does 0 lag 0;");
                }
                text.append("wood every 1 at 0;".repeat(12)).append("tune 1 at 0;".repeat(5)).append("mud 3;mud 199;");
                OverHill x = told(text.toString());
                x.mud(4, 1);
                x.mud(3, 0);
                x.mud(5, 1);
                x.feed(0, 0, 0, 0, 0);
                x.end(13);
                x.row(3, 0, 0);
                x.row(0, 2, 60);
                x.row(0, 2, 1);
                int[] counts = {20, 99, 98, 12, 1, 8, 3, 12, 5, 3, 30, 13, 2};
                for (int what = 0; what <= 12; what++) {
                    due("count(" + what + ")", x.count(what), counts[what]);
                }
                due("no ROUND of SIDE 0", told(HEAD + "round 1 of 3 begins 0;").count(3), 0);
                due("no ROUND of SIDE 1", told(HEAD + "round 0 of 3 begins 0;").count(4), 0);
                OverHill mud = told(HEAD);
                for (int beat = 0; beat < 40; beat++) {
                    mud.mud(beat, 1);
                }
                due("MUD in forty", mud.count(6), 40);
                for (int slot = 0; slot < 4; slot++) {
                    mud.row(slot, 0, slot * 20);
                    due("SLOTS", mud.count(12), slot + 1);
                }
            });
        sentence("58", "NONE for others", () -> {
            for (int what : new int[] {-1, 13, LEAST, MOST}) {
                due("count(" + what + ")", told(CALM).count(what), NONE);
                due("count(" + what + ") without a DANCE", new OverHill().count(what), NONE);
            }
        });
    }

    private static void promise59() {
        sentence("59", "IMAGE k (0 .. 2) keeps the DANCE, and changes: 0", () -> {
            OverHill x = told(CALM);
            for (int k = 0; k < 3; k++) {
                x.mud(k, 1);
                due("image(" + k + ")", x.image(k), 0);
            }
            Texts.tell(x, "dance gap 9 odds 0 rain 0;");
            for (int k = 2; k >= 0; k--) {
                due("back(" + k + ")", x.back(k), 0);
                due("MUD of IMAGE " + k, x.count(6), k + 1);
                due("changes of IMAGE " + k, x.count(9), k + 1);
                due("gap of IMAGE " + k, x.count(0), 0);
            }
            due("again", x.image(2), 0);
            due("back(2)", x.back(2), 0);
            due("in place of the other one", x.count(6), 1);
        });
        sentence("59", "-2: no such k", () -> {
            for (int k : new int[] {-1, 3, LEAST, MOST}) {
                due("image(" + k + ")", told(CALM).image(k), -2);
                due("image(" + k + ") without a DANCE", new OverHill().image(k), -2);
            }
        });
    }

    private static void promise60() {
        sentence("60", "It is as IMAGE k has it: 0", () -> {
            String text = "dance gap 1 odds 4 rain 5;round 0 of 1 2 begins 1;round 1 of 3 4 5 begins 2;answers 1 2;"
                + "stumble 0 at 7 does 3 lag 2;mud 9;wood every 3 at 1;tune 3 at 2;";
            OverHill x = told(text);
            x.stumble(1, 8, 0, 1);
            x.teach(1, 2, 0);
            x.image(1);
            Texts.tell(x, "dance gap 2 odds 6 rain 7;round 0 of 5 begins 0;answers 1;answers 3;stumble 1 at 1 does 0 lag 0;mud 1;mud 2;tune 2 at 0;tune 2 at 1;");
            x.mud(100, 1);
            due("danced now", x.danced(0, 8), 5);
            due("back(1)", x.back(1), 0);
            due("danced at once", x.danced(0, 8), 2);
            int[] counts = {1, 4, 5, 2, 3, 2, 1, 1, 1, 2, 8, 0, 0};
            for (int what = 0; what <= 12; what++) {
                due("count(" + what + ")", x.count(what), counts[what]);
            }
            due("answers", x.answers(1), 4);
            due("answers", x.answers(3), 63);
            due("begins", x.place(1, 0), 2);
            due("taught", x.step(1, 2), 0);
            due("STUMBLE 0", x.stumbled(0, 1), 7);
            due("STUMBLE 1", x.danced(1, 8), 0);
            due("MUD", x.muddy(9), 1);
            due("no other MUD", x.muddy(1) + x.muddy(2) + x.muddy(100), 0);
            due("TUNE", x.together(1, 0), 2);
            due("wood", x.crosses(0), 3);
            due("its changes", x.undo(), 1);
            due("as told", x.step(1, 2), 5);
            due("its changes", x.undo(), 0);
            due("as told", x.danced(1, 8), 4);
            due("it has them still", x.back(1), 0);
            due("changes", x.count(9), 2);
            due("taught", x.step(1, 2), 0);
        });
        sentence("60", "-2: no such k", () -> {
            OverHill x = told(CALM);
            x.image(0);
            x.image(2);
            for (int k : new int[] {-1, 3, LEAST, MOST}) {
                due("back(" + k + ")", x.back(k), -2);
            }
        });
        sentence("60", "-6: it has nothing", () -> {
            OverHill x = told(CALM + "mud 3;");
            for (int k = 0; k < 3; k++) {
                due("back(" + k + ")", x.back(k), -6);
            }
            x.image(1);
            due("IMAGE 0", x.back(0), -6);
            due("IMAGE 1", x.back(1), 0);
            due("IMAGE 2", x.back(2), -6);
            due("nothing happens", x.muddy(3), 1);
            due("without a DANCE", new OverHill().back(0), -6);
            // an IMAGE of no DANCE is kept, too
            OverHill y = new OverHill();
            due("image(0)", y.image(0), 0);
            Texts.tell(y, CALM);
            due("back(0)", y.back(0), 0);
            noDance(y);
        });
    }
}
