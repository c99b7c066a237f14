/** IV, and promises 34 to 38: ways through the wood, and where two can meet. */
final class WoodEdges extends Edges {
    private static final String NINTH = HEAD + "wood every 9 at 0;";
    private static final String OPEN_TWELVE = HEAD + "wood every 1 at 0;".repeat(12);
    /** From each cell on one waits for the last of nine BEATS. */
    private static final String SLOW_TWELVE = HEAD + "wood every 9 at 8;".repeat(12);

    @Override
    void all() {
        ways();
        promise34();
        promise35();
        promise36();
        promise37();
        promise38();
    }

    private static void ways() {
        sentence("IV", "From a SIDE one steps, in each BEAT (from the one in which he leaves on), into the next cell, if that BEAT modulo its every is its at, or stays",
            () -> {
                OverHill x = told(NINTH);
                due("in the BEAT in which he leaves", x.crosses(0), 2);
                due("one later he stays up to BEAT 9", x.crosses(1), 11);
                due("up to the BEAT itself", x.crosses(9), 11);
                due("one later", x.crosses(10), 20);
                for (int at = 0; at < 9; at++) {
                    due("at " + at, told(HEAD + "wood every 9 at " + at + ";").crosses(0), at + 2);
                    due("at " + at + ", from the next on", told(HEAD + "wood every 9 at " + at + ";").crosses(at + 1), at + 11);
                }
                due("every 1 at 0: in any BEAT", told(HEAD + "wood every 1 at 0;").crosses(7), 9);
                // he is in cell 0 in BEAT 1, and may step on in that BEAT
                due("two in a row", told(HEAD + "wood every 9 at 0;wood every 9 at 1;").crosses(0), 3);
                due("not two in one BEAT", told(HEAD + "wood every 9 at 0;wood every 9 at 0;").crosses(0), 11);
            });
        sentence("IV", "from the last cell (without a wood: from the SIDE) out to the other SIDE in any BEAT (so he is there in the next one: a step of a BEAT is done in the next one)",
            () -> {
                for (int beat : new int[] {0, 1, 198, 199}) {
                    due("without a wood, from SIDE 0", told(HEAD).crosses(beat), beat + 1);
                    due("without a wood, from SIDE 1", told(HEAD).returns(beat), beat + 1);
                }
                OverHill x = told(NINTH);
                for (int k = 0; k < 9; k++) {
                    due("out of the last cell", told(HEAD + "wood every 9 at " + k + ";").crosses(k), k + 2);
                }
                due("in BEAT 199 he waits for BEAT 207", x.crosses(199), 209);
            });
        sentence("IV", "From SIDE 0 through cells 0, 1, ..; from SIDE 1 through the last one, ..", () -> {
            OverHill x = told(HEAD + "wood every 9 at 0;wood every 9 at 1;wood every 9 at 2;");
            due("0, 1, 2", x.crosses(0), 4);
            due("2, 10, 18", x.returns(0), 20);
            OverHill y = told(HEAD + "wood every 9 at 2;wood every 9 at 1;wood every 9 at 0;");
            due("2, 10, 18", y.crosses(0), 20);
            due("0, 1, 2", y.returns(0), 4);
        });
        sentence("IV", "In a cell in a BEAT: who stepped there in an earlier BEAT, not yet further (he may stay)", () -> {
            OverHill x = told(NINTH);
            due("stepped in BEAT 0, there in BEAT 1", x.meet(0, 0), 1);
            due("the first one stays", x.meet(0, 9), 10);
            due("the other one stays", x.meet(199, 0), 208);
            // one is in the last cell from BEAT 2 on and stays there, the other leaves in BEAT 199
            OverHill y = told(HEAD + "wood every 1 at 0;wood every 1 at 0;");
            due("he stays in the last", y.meet(0, 199), 200);
            due("in the last", y.cell(0, 199), 1);
        });
    }

    private static void promise34() {
        sentence("34", "the first BEAT in which one who leaves SIDE 0 in a BEAT is on SIDE 1", () -> {
            due("no wood", told(HEAD).crosses(0), 1);
            due("no wood", told(HEAD).crosses(199), 200);
            due("one cell", told(HEAD + "wood every 2 at 1;").crosses(0), 3);
            for (int beat : new int[] {0, 100, 199}) {
                due("twelve cells", told(OPEN_TWELVE).crosses(beat), beat + 13);
            }
            due("twelve slow cells", told(SLOW_TWELVE).crosses(0), 109);
            due("twelve slow cells", told(SLOW_TWELVE).crosses(8), 109);
            due("twelve slow cells", told(SLOW_TWELVE).crosses(9), 118);
            // 206 is the first of them: there in 207, in the last in 306
            due("twelve slow cells, from the last BEAT", told(SLOW_TWELVE).crosses(199), 307);
        });
        sentence("34", "-2: there is no such BEAT, no DANCE", () -> {
            for (int beat : NO_BEATS) {
                due("crosses(" + beat + ")", told(NINTH).crosses(beat), -2);
                due("without a wood", told(HEAD).crosses(beat), -2);
            }
            due("no DANCE", new OverHill().crosses(0), -2);
        });
    }

    private static void promise35() {
        sentence("35", "Likewise from SIDE 1 to SIDE 0", () -> {
            due("no wood", told(HEAD).returns(0), 1);
            due("no wood", told(HEAD).returns(199), 200);
            due("twelve cells", told(OPEN_TWELVE).returns(199), 212);
            due("twelve slow cells", told(SLOW_TWELVE).returns(199), 307);
            OverHill x = told(HEAD + "wood every 3 at 1;wood every 2 at 0;");
            due("cell 1 in BEAT 0, cell 0 in BEAT 1", x.returns(0), 3);
            due("cell 0 in BEAT 1, cell 1 in BEAT 2", x.crosses(0), 4);
            due("cell 1 in BEAT 2, cell 0 in BEAT 4", x.returns(1), 6);
        });
        sentence("35", "-2 likewise", () -> {
            for (int beat : NO_BEATS) {
                due("returns(" + beat + ")", told(NINTH).returns(beat), -2);
                due("without a wood", told(HEAD).returns(beat), -2);
            }
            due("no DANCE", new OverHill().returns(0), -2);
        });
    }

    private static void promise36() {
        sentence("36", "The first BEAT in which two who leave, one SIDE 0, the other SIDE 1, each in a BEAT, can be in one cell of the wood", () -> {
            due("one cell", told(HEAD + "wood every 1 at 0;").meet(0, 0), 1);
            due("one cell", told(HEAD + "wood every 1 at 0;").meet(199, 199), 200);
            // of twelve: cell 5 in BEAT 6 and 7, cell 6 in BEAT 7 and 6
            due("twelve cells", told(OPEN_TWELVE).meet(0, 0), 7);
            due("one leaves long ahead", told(OPEN_TWELVE).meet(0, 199), 200);
            due("the other leaves long ahead", told(OPEN_TWELVE).meet(199, 0), 200);
            // cell 5 in BEATS 54 and 63, cell 6 in BEATS 63 and 54
            due("twelve slow cells", told(SLOW_TWELVE).meet(0, 0), 63);
            due("unlike BEATS", told(OPEN_TWELVE).meet(0, 3), 8);
            due("unlike BEATS", told(OPEN_TWELVE).meet(3, 0), 8);
        });
        sentence("36", "NONE: there is no wood", () -> {
            due("meet(0, 0)", told(HEAD).meet(0, 0), NONE);
            due("meet(0, 199)", told(HEAD).meet(0, 199), NONE);
        });
        sentence("36", "-2: there are none such", () -> noBeats(OverHill::meet));
    }

    private interface OfTwo {
        int ask(OverHill x, int beat, int other);
    }

    private static void noBeats(OfTwo call) {
        for (String text : new String[] {NINTH, HEAD}) {
            OverHill x = told(text);
            for (int beat : NO_BEATS) {
                due("BEAT " + beat, call.ask(x, beat, 0), -2);
                due("another BEAT " + beat, call.ask(x, 0, beat), -2);
            }
        }
        due("no DANCE", call.ask(new OverHill(), 0, 0), -2);
    }

    private static void promise37() {
        sentence("37", "The cell (from 0) in which they are, the least of several", () -> {
            due("5 of 5 and 6", told(OPEN_TWELVE).cell(0, 0), 5);
            due("5 of 5 and 6", told(SLOW_TWELVE).cell(0, 0), 5);
            due("0 of 0 and 1", told(HEAD + "wood every 1 at 0;wood every 1 at 0;").cell(0, 0), 0);
            due("the first", told(OPEN_TWELVE).cell(199, 0), 0);
            due("the last", told(OPEN_TWELVE).cell(0, 199), 11);
            due("the only one", told(NINTH).cell(7, 3), 0);
            // by BEAT 8 one is in cell 7, the other one in cell 7 in BEAT 8, too
            due("7", told(OPEN_TWELVE).cell(0, 3), 7);
            due("4", told(OPEN_TWELVE).cell(3, 0), 4);
        });
        sentence("37", "NONE, -2 likewise", () -> {
            due("no wood", told(HEAD).cell(0, 0), NONE);
            due("no wood", told(HEAD).cell(199, 199), NONE);
            noBeats(OverHill::cell);
        });
    }

    /** A wood that it takes longest to cross from one BEAT alone. */
    private static void lastsFrom(String what, String wood, int from, int beats) {
        OverHill x = told(HEAD + wood);
        due("from BEAT " + what + " alone", x.longest(), beats);
        for (int beat = 0; beat < 200; beat++) {
            due("as long, or shorter, from " + beat, x.crosses(beat) - beat < beats ? 0 : 1, beat == from ? 1 : 0);
        }
    }

    private static void promise38() {
        sentence("38", "How many BEATS it takes at most to cross from SIDE 0, whatever BEAT one leaves in", () -> {
            due("no wood", told(HEAD).longest(), 1);
            due("one cell, open in every BEAT", told(HEAD + "wood every 1 at 0;").longest(), 2);
            due("one cell, from BEATS 1, 10, ..", told(NINTH).longest(), 10);
            due("one cell, from BEATS 0, 9, ..", told(HEAD + "wood every 9 at 8;").longest(), 10);
            due("twelve cells", told(OPEN_TWELVE).longest(), 13);
            due("twelve slow cells", told(SLOW_TWELVE).longest(), 109);
            // from SIDE 0 cell 1 is open just behind cell 0; from SIDE 1 one leaves in BEAT 2 and is there in BEAT 10
            OverHill oneWay = told(HEAD + "wood every 4 at 0;wood every 4 at 1;");
            due("from SIDE 0 alone", oneWay.longest(), 6);
            due("from SIDE 1 it would be", oneWay.returns(2) - 2, 8);
            lastsFrom("0", "wood every 7 at 6;wood every 4 at 2;wood every 9 at 1;wood every 6 at 0;wood every 9 at 4;", 0, 33);
            lastsFrom("199", "wood every 7 at 2;wood every 5 at 0;wood every 9 at 2;wood every 5 at 3;wood every 2 at 0;", 199, 27);
            // from BEAT 200, which is none, it would take longer
            OverHill x = told(HEAD + "wood every 8 at 7;wood every 7 at 4;wood every 9 at 6;wood every 9 at 5;");
            int most = 0;
            for (int beat = 0; beat < 200; beat++) {
                most = Math.max(most, x.crosses(beat) - beat);
            }
            due("the most of all BEATS", most, 31);
            due("BEATS 0 .. 199 alone", x.longest(), 31);
            // from SIDE 0: cell 0 in any BEAT, up to 2 BEATS for cell 1
            due("from SIDE 0", told(HEAD + "wood every 1 at 0;wood every 3 at 0;").longest(), 5);
        });
        sentence("38", "-2: there is no DANCE", () -> due("longest()", new OverHill().longest(), -2));
    }
}
