/** For each promise of the document answers that were worked out by hand from its words. */
public final class PromisesTest {
    private static final int NONE = -1;
    private static int wrong = 0;
    private static int asked = 0;

    private static final String HEAD = "dance gap 1 odds 20 rain 20;";
    /**
     * SIDE 0 dances 0 1 2 0 1 2 .., SIDE 1 dances 2 1 2 1 .., each heard a BEAT later. HOLES:
     * on SIDE 0 in BEATS 3, 5, 9, 11, 15, 17 .., on SIDE 1 in BEATS 6, 12, 18 ...
     */
    private static final String PLAIN = HEAD + " round 0 of 0 1 2 begins 0; round 1 of 1 2 begins 1; answers 0 1; answers 2 0 1;";

    private static final int[] WRONG_BEATS = {-1, 200, Integer.MIN_VALUE, Integer.MAX_VALUE};
    private static final int[] WRONG_SIDES = {-1, 2, Integer.MIN_VALUE, Integer.MAX_VALUE};
    private static final int[] WRONG_STEPS = {-1, 6, Integer.MIN_VALUE, Integer.MAX_VALUE};
    private static final int[] WRONG_SLOTS = {-1, 4, Integer.MIN_VALUE, Integer.MAX_VALUE};

    private static void due(String call, long got, long want) {
        asked++;
        if (got != want) {
            wrong++;
            System.out.println(call + " answered " + got + ", due is " + want);
        }
    }

    private static OverHill told(String text) {
        return Texts.told(text);
    }

    private static OverHill withRow(String text, int slot, int width, long... numbers) {
        OverHill x = text.isEmpty() ? new OverHill() : told(text);
        putRow(x, slot, width, numbers);
        return x;
    }

    private static void putRow(OverHill x, int slot, int width, long... numbers) {
        due("row", x.row(slot, width, numbers.length), 0);
        for (int i = 0; i < numbers.length; i++) {
            due("write", x.write(slot, i, numbers[i]), 0);
        }
    }

    private static void faulty(String text, int kind, int place) {
        OverHill x = told(PLAIN);
        due("4: " + text, Texts.tell(x, text), -4);
        due("5: kind of " + text, x.fault(0), kind);
        due("5: place of " + text, x.fault(1), place);
        due("4: the tape stays with " + text, x.count(11), text.length());
        due("4: the dance stays with " + text, x.count(10), 5);
    }

    private static void right(String text, int lines) {
        OverHill x = new OverHill();
        due("4: " + text, Texts.tell(x, text), lines);
        due("5: no fault in " + text, x.fault(0), 0);
        due("5: no place in " + text, x.fault(1), NONE);
        due("4: the tape is empty behind " + text, x.count(11), 0);
        due("58: lines of " + text, x.count(10), lines);
    }

    private static String times(int n, String part) {
        return part.repeat(n);
    }

    // ---------------------------------------------------------------- 1 to 9: the text

    private static void newObject() {
        OverHill x = new OverHill();
        for (int what = 0; what <= 12; what++) {
            due("1: count(" + what + ")", x.count(what), 0);
        }
        due("1: step(0, 0)", x.step(0, 0), -2);
        due("1: muddy(0)", x.muddy(0), -2);
        due("1: stumbled(0, 0)", x.stumbled(0, 0), -2);
        due("1: undoes(0)", x.undoes(0), -1000);
        due("1: undo()", x.undo(), -2);
        due("1: stumble", x.stumble(0, 0, 0, 0), -2);
        due("1: mud", x.mud(0, 1), -2);
        due("1: teach", x.teach(0, 0, 0), -2);
        due("1: meet", x.meet(0, 0), -2);
        due("1: shifted", x.shifted(0), -2);
        due("1: chorus", x.chorus(), -2);
        due("1: plays", x.plays(0), -2);
        due("1: nights", x.nights(1, 1, 1), -2);
    }

    private static void feeding() {
        OverHill x = new OverHill();
        for (int i = 1; i <= 60; i++) {
            due("2: feed " + i, x.feed(0x20202020, 0x20202020, 0x20202020, 0x20202020, 0x20202020), i * 20);
        }
        due("2: full", x.feed(0, 0, 0, 0, 0), NONE);
        due("2: none came", x.count(11), 1200);
        due("2: blanks alone", x.dance(), 0);
        due("2: empty then", x.count(11), 0);
        x.end(0);
        due("2: first", x.feed(1, 2, 3, 4, 5), 20);
        x.end(19);
        due("2: behind nineteen", x.feed(1, 2, 3, 4, 5), 39);
        // "dance gap 7 odds 12 rain 3;" in its bytes, the highest of each number first
        x.end(0);
        x.feed(0x64616e63, 0x65206761, 0x70203720, 0x6f646473, 0x20313220);
        x.feed(0x7261696e, 0x20333b20, 0x20202020, 0x20202020, 0x2020200a);
        due("2: a dance of bytes", x.dance(), 1);
        due("2: its gap", x.count(0), 7);
        due("2: its odds", x.count(1), 12);
        due("2: its rain", x.count(2), 3);
        x.feed(-1, -1, -1, -1, -1);
        due("2: bytes of 255", x.dance(), -4);
        due("2: at the first", x.fault(1), 0);
        x.end(1181);
        x.end(0);
        for (int i = 1; i <= 59; i++) {
            x.feed(0, 0, 0, 0, 0);
        }
        due("2: 1180 and 20 are 1200", x.feed(0, 0, 0, 0, 0), 1200);
        x.end(1181);
        due("2: 1181 and 20 are too many", x.feed(0, 0, 0, 0, 0), NONE);
    }

    private static void ending() {
        OverHill x = new OverHill();
        due("3: end(0) of none", x.end(0), 0);
        due("3: end(1) of none", x.end(1), NONE);
        due("3: end(-1)", x.end(-1), NONE);
        x.feed(1, 2, 3, 4, 5);
        due("3: all", x.end(20), 20);
        due("3: one more", x.end(21), NONE);
        due("3: below 0", x.end(Integer.MIN_VALUE), NONE);
        due("3: far", x.end(Integer.MAX_VALUE), NONE);
        due("3: nothing happened", x.count(11), 20);
        due("3: seven", x.end(7), 7);
        due("3: it has seven", x.count(11), 7);
        due("3: not eight", x.end(8), NONE);
    }

    private static void dancing() {
        right("", 0);
        right(" \n ", 0);
        right("dance gap 0 odds 0 rain 0;", 1);
        right("dance gap 20 odds 100 rain 100;", 1);
        right("dance\ngap 0odds 0rain 0;mud 3;mud5;", 3);
        right("dance gap 00020 odds 000 rain 0100;", 1);
        right(PLAIN, 5);
        OverHill x = told(PLAIN);
        x.mud(3, 1);
        due("4: in place of another", Texts.tell(x, "dance gap 3 odds 1 rain 2; tune 4 at 1;"), 2);
        due("4: no round of the other", x.count(3), 0);
        due("4: no change of the other", x.count(9), 0);
        due("4: no mud of the other", x.count(6), 0);
        due("4: no answers of the other", x.answers(0), 63);
        due("4: empty", x.dance(), 0);
        due("4: there is none then", x.answers(0), -2);
        due("4: no gap then", x.count(0), 0);
        for (int what = 0; what <= 12; what++) {
            due("4: nothing then: count(" + what + ")", x.count(what), 0);
        }
        due("4: the first LINE is no LINE", Texts.tell(x, "round 0 of 0 begins 0;"), -4);
    }

    private static void faults() {
        OverHill x = new OverHill();
        due("5: ahead of any", x.fault(0), 0);
        due("5: its place", x.fault(1), NONE);
        due("5: another what", x.fault(2), NONE);
        due("5: below", x.fault(-1), NONE);
        Texts.tell(x, "dance gap 21");
        due("5: kind", x.fault(0), 2);
        due("5: place", x.fault(1), 10);
        due("5: another what", x.fault(2), NONE);
        x.end(0);
        due("5: stays until the next", x.fault(0), 2);
        x.dance();
        due("5: without", x.fault(0), 0);
        due("5: place without", x.fault(1), NONE);
    }

    private static void misplaced() {
        faulty("d", 1, 0);
        faulty(" dances", 1, 1);
        faulty("dance", 1, 5);
        faulty("dance \n", 1, 7);
        faulty("dance gap", 1, 9);
        faulty("dance gap 0 odds 0 rain 0", 1, 25);
        faulty("dance gap 0 odds 0 rain 0 ", 1, 26);
        faulty("dance gap 0 odds 0 rain 0;;", 1, 26);
        faulty("dance gap 0 odds 0 rain 0 0;", 1, 26);
        faulty("dance odds 0", 1, 6);
        faulty("dance gap odds", 1, 10);
        faulty("dance gap -1", 1, 10);
        faulty("dance gap 0\todds", 1, 11);
        faulty("Dance", 1, 0);
        faulty("mance gap 0", 1, 0);
        faulty("dance tap 0", 1, 6);
        faulty("dance gaz 0", 1, 6);
        faulty("dance{", 1, 5);
        faulty("dance`", 1, 5);
        faulty("dance gap 1/", 1, 11);
        faulty("dance gap 1:", 1, 11);
        faulty("mud 3;", 1, 0);
        faulty("7", 1, 0);
        faulty(";", 1, 0);
        faulty("" + (char) 225, 1, 0);
        faulty("" + (char) 0, 1, 0);
        String h = "dance gap 0 odds 0 rain 0;";
        faulty(h + h, 1, 26);
        faulty(h + "x", 1, 26);
        faulty(h + "mudd 3;", 1, 26);
        faulty(h + "mudz 3;", 1, 26);
        faulty(h + "mu d 3;", 1, 26);
        faulty(h + "mud;", 1, 29);
        faulty(h + "mud 3 4;", 1, 32);
        faulty(h + "mud 3 mud 4;", 1, 32);
        faulty(h + "round 0 of begins 0;", 1, 37);
        faulty(h + "round 0 of 0 0;", 1, 40);
        faulty(h + "round 0 of 0 begins;", 1, 45);
        faulty(h + "round 0 0 begins 0;", 1, 34);
        faulty(h + "answers;", 1, 33);
        faulty(h + "answers 0 1 at;", 1, 38);
        faulty(h + "stumble 0 at 3 lag 2 does 1;", 1, 41);
        faulty(h + "wood 3 at 1;", 1, 31);
        faulty(h + "tune every 3 at 1;", 1, 31);
        faulty(h + "tune 3 1;", 1, 33);
        faulty(h + "gap 3;", 1, 26);
    }

    private static void outOfBounds() {
        faulty("dance gap 21 odds", 2, 10);
        faulty("dance gap 0 odds 101", 2, 17);
        faulty("dance gap 0 odds 0 rain 101", 2, 24);
        faulty("dance gap 99999999999999999999", 2, 10);
        faulty("dance gap 4294967296", 2, 10);
        String h = "dance gap 0 odds 0 rain 0;";
        faulty(h + "round 2 of", 2, 32);
        faulty(h + "round 0 of 6", 2, 37);
        faulty(h + "round 0 of 1 2 6", 2, 41);
        faulty(h + "round 0 of 1 2 begins 2", 2, 48);
        faulty(h + "answers 6", 2, 34);
        faulty(h + "answers 0 6", 2, 36);
        faulty(h + "stumble 2", 2, 34);
        faulty(h + "stumble 0 at 200", 2, 39);
        faulty(h + "stumble 0 at 3 does 6", 2, 46);
        faulty(h + "stumble 0 at 3 does 5 lag 10", 2, 52);
        faulty(h + "stumble 0 at 3 does 5 lag 9;stumble 0 at 3", 2, 67);
        right(h + "stumble 0 at 3 does 5 lag 9;stumble 1 at 3 does 0 lag 0;stumble 0 at 4 does 0 lag 0;", 4);
        faulty(h + "mud 200", 2, 30);
        faulty(h + "mud 7;mud 07;", 2, 36);
        faulty(h + "wood every 0", 2, 37);
        faulty(h + "wood every 10", 2, 37);
        faulty(h + "wood every 9 at 9", 2, 42);
        right(h + "wood every 9 at 8;wood every 1 at 0;", 3);
        faulty(h + "tune 0", 2, 31);
        faulty(h + "tune 31", 2, 31);
        faulty(h + "tune 30 at 30", 2, 37);
        right(h + "tune 30 at 29;tune 1 at 0;", 3);
    }

    private static void tooMany() {
        String h = "dance gap 0 odds 0 rain 0;";
        String twelve = "round 0 of 0 1 2 3 4 5 0 1 2 3 4 5";
        right(h + twelve + " begins 11;", 2);
        faulty(h + twelve + " 3 begins 0;", 3, 26 + twelve.length() + 1);
        faulty(h + twelve + " 6 begins 0;", 2, 26 + twelve.length() + 1);
        faulty(h + twelve + " x", 1, 26 + twelve.length() + 1);
        StringBuilder eight = new StringBuilder(h);
        for (int i = 0; i < 8; i++) {
            eight.append("stumble 1 at ").append(i).append(" does 0 lag 0;");
        }
        right(eight.toString(), 9);
        faulty(eight + " stumble 1 at 0", 3, eight.length() + 1);
        faulty(eight + "stumble", 3, eight.length());
        String woods = h + times(12, "wood every 2 at 1;");
        right(woods, 13);
        faulty(woods + "wood every 99", 3, woods.length());
        String tunes = h + times(5, "tune 2 at 1;");
        right(tunes, 6);
        faulty(tunes + "\ntune x", 3, tunes.length() + 1);
        right(h + "answers 0" + times(30, " 3") + ";", 2);
        right(h + times(9, "round 0 of 1 2 begins 1;") + times(9, "answers 3 1;"), 19);
    }

    private static void toldSteps() {
        OverHill x = told(PLAIN);
        due("6", x.step(0, 0), 0);
        due("6", x.step(0, 2), 2);
        due("6", x.step(0, 3), NONE);
        due("6", x.step(0, -1), NONE);
        due("6", x.step(1, 0), 1);
        due("6", x.step(1, 1), 2);
        due("6", x.step(1, Integer.MAX_VALUE), NONE);
        for (int side : WRONG_SIDES) {
            due("6: no such side", x.step(side, 0), -2);
        }
        OverHill y = told(HEAD + "round 1 of 3 4 5 begins 2; round 1 of 2 1 begins 0;");
        due("6: without a round", y.step(0, 0), NONE);
        due("6: a later one strikes", y.step(1, 0), 2);
        due("6: it is shorter", y.step(1, 2), NONE);
        due("6: and begins elsewhere", y.place(1, 0), 0);
    }

    private static void toldAnswers() {
        OverHill x = told(HEAD + "answers 0 1; answers 2 5 5 0 5; answers 3; answers 4 1 2; answers 4 0;");
        due("7", x.answers(0), 2);
        due("7: without one by all", x.answers(1), 63);
        due("7: like ones count once", x.answers(2), 33);
        due("7: none behind it", x.answers(3), 0);
        due("7: a later one strikes", x.answers(4), 1);
        for (int step : WRONG_STEPS) {
            due("7: no such step", x.answers(step), -2);
        }
    }

    private static void toldStumbles() {
        OverHill x = told(HEAD + "stumble 1 at 199 does 5 lag 9; stumble 0 at 0 does 0 lag 0; stumble 0 at 7 does 3 lag 2;");
        due("8: side", x.stumbled(0, 0), 1);
        due("8: beat", x.stumbled(0, 1), 199);
        due("8: step", x.stumbled(0, 2), 5);
        due("8: lag", x.stumbled(0, 3), 9);
        due("8: second", x.stumbled(1, 1), 0);
        due("8: third", x.stumbled(2, 2), 3);
        due("8: none such", x.stumbled(3, 0), -2);
        due("8: none such", x.stumbled(-1, 0), -2);
        due("8: no such what", x.stumbled(0, 4), -2);
        due("8: no such what", x.stumbled(0, -1), -2);
    }

    private static void toldMud() {
        OverHill x = told(HEAD + "mud 0; mud 199; mud 7;");
        due("9", x.muddy(0), 1);
        due("9", x.muddy(199), 1);
        due("9", x.muddy(7), 1);
        due("9", x.muddy(8), 0);
        for (int beat : WRONG_BEATS) {
            due("9: no such beat", x.muddy(beat), -2);
        }
    }

    // ---------------------------------------------------------------- 10 to 20: who dances what

    /** In BEAT 2 SIDE 0 stumbles into 4 and is 2 back; BEAT 4 is mud, and the STUMBLE of SIDE 1 there none. */
    private static final String STUMBLED =
        PLAIN + "stumble 0 at 2 does 4 lag 2; stumble 1 at 4 does 5 lag 1; stumble 1 at 6 does 3 lag 9; mud 4;";

    private static void sixCalls() {
        OverHill x = told(STUMBLED);
        int[] place0 = {0, 1, 2, 1, 2, 2, 0, 1};
        int[] danced0 = {0, 1, 4, 1, NONE, 2, 0, 1};
        int[] late0 = {0, 0, 0, 2, 2, 0, 0, 0};
        int[] place1 = {1, 0, 1, 0, 1, 1, 0, 0};
        int[] danced1 = {2, 1, 2, 1, NONE, 2, 3, 1};
        int[] late1 = {0, 0, 0, 0, 0, 1, 1, 0};
        for (int b = 0; b < 8; b++) {
            due("10: place(0, " + b + ")", x.place(0, b), place0[b]);
            due("11: danced(0, " + b + ")", x.danced(0, b), danced0[b]);
            due("13: late(0, " + b + ")", x.late(0, b), late0[b]);
            due("10: place(1, " + b + ")", x.place(1, b), place1[b]);
            due("11: danced(1, " + b + ")", x.danced(1, b), danced1[b]);
            due("13: late(1, " + b + ")", x.late(1, b), late1[b]);
            due("12: hears(0, " + b + ")", x.hears(0, b), b == 0 ? NONE : danced1[b - 1]);
            due("12: hears(1, " + b + ")", x.hears(1, b), b == 0 ? NONE : danced0[b - 1]);
        }
        OverHill y = told(HEAD + "round 0 of 3 begins 0; stumble 1 at 3 does 2 lag 1;");
        due("10: no round", y.place(1, 3), NONE);
        due("11: no round", y.danced(1, 3), NONE);
        due("12: no round to hear", y.hears(0, 4), NONE);
        due("12: heard", y.hears(1, 199), 3);
        due("13: no round", y.late(1, 3), NONE);
        due("14: no round", y.hole(1, 3), 0);
        due("15: no round", y.next(1, 3), NONE);
        due("16: no round", y.holes(1, 3, 199), 0);
        OverHill z = told("dance gap 20 odds 0 rain 0; round 1 of 4 5 begins 0; round 0 of 1 begins 0;");
        due("12: none ahead of beat 0", z.hears(0, 19), NONE);
        due("12: gap 20", z.hears(0, 20), 4);
        due("12: gap 20", z.hears(0, 199), 5);
        for (int side : WRONG_SIDES) {
            due("10: no side", x.place(side, 0), -2);
            due("11: no side", x.danced(side, 0), -2);
            due("12: no side", x.hears(side, 0), -2);
            due("13: no side", x.late(side, 0), -2);
            due("14: no side", x.hole(side, 0), -2);
            due("15: no side", x.next(side, 0), -2);
            due("16: no side", x.holes(side, 0, 1), -2);
            due("20: no side", x.causes(side, 0), -2);
        }
        for (int beat : WRONG_BEATS) {
            due("10: no beat", x.place(0, beat), -2);
            due("11: no beat", x.danced(0, beat), -2);
            due("12: no beat", x.hears(0, beat), -2);
            due("13: no beat", x.late(0, beat), -2);
            due("14: no beat", x.hole(0, beat), -2);
            due("15: no beat", x.next(0, beat), -2);
            due("16: no beat", x.holes(0, 0, beat), -2);
            due("16: no beat", x.holes(0, beat, 199), -2);
            due("17: no beat", x.run(0, beat), -2);
            due("17: no beat", x.run(beat, 199), -2);
            due("18: no beat", x.begins(0, beat), -2);
            due("18: no beat", x.begins(beat, 199), -2);
            due("20: no beat", x.causes(0, beat), -2);
        }
    }

    private static void theHoles() {
        OverHill x = told(PLAIN);
        for (int b = 0; b < 200; b++) {
            due("14: hole(0, " + b + ")", x.hole(0, b), b % 6 == 3 || b % 6 == 5 ? 1 : 0);
            due("14: hole(1, " + b + ")", x.hole(1, b), b % 6 == 0 && b > 0 ? 1 : 0);
        }
        due("15", x.next(0, 0), 3);
        due("15: from that on", x.next(0, 3), 3);
        due("15", x.next(0, 4), 5);
        due("15", x.next(1, 0), 6);
        due("15: none", x.next(0, 198), NONE);
        due("15: the last", x.next(1, 193), 198);
        due("16", x.holes(0, 0, 11), 4);
        due("16: both too", x.holes(0, 3, 5), 2);
        due("16: one", x.holes(0, 3, 3), 1);
        due("16: one", x.holes(0, 4, 4), 0);
        due("16: all", x.holes(0, 0, 199), 66);
        due("16: all", x.holes(1, 0, 199), 33);
        due("16: earlier", x.holes(0, 5, 4), -2);
        due("17", x.run(0, 199), 3);
        due("18", x.begins(0, 199), 0);
        due("17: the first of several", x.run(1, 199), 2);
        due("18: the first of several", x.begins(1, 199), 1);
        due("17", x.run(4, 20), 2);
        due("18", x.begins(4, 20), 7);
        due("17: none", x.run(5, 6), 0);
        due("18: none", x.begins(5, 6), NONE);
        due("17: one", x.run(3, 4), 1);
        due("18: one", x.begins(3, 4), 4);
        due("17: earlier", x.run(4, 3), -2);
        due("18: earlier", x.begins(4, 3), -2);
        OverHill all = told(HEAD);
        due("17: without rounds", all.run(0, 199), 200);
        due("18: without rounds", all.begins(7, 199), 7);
        // with gap 0 one hears what is danced now
        OverHill now = told("dance gap 0 odds 0 rain 0; round 0 of 1 begins 0; round 1 of 2 begins 0; answers 1 1; answers 2;");
        due("14: gap 0", now.hole(0, 0), 1);
        due("14: gap 0", now.hole(1, 0), 1);
        OverHill way = told("dance gap 0 odds 0 rain 0; round 0 of 1 begins 0; round 1 of 2 begins 0; answers 1 1;");
        due("14: not by the other's answers", way.hole(1, 0), 0);
    }

    private static void undoing() {
        // SIDE 1 dances 0 always, SIDE 0 too, but for its STUMBLES; 0 may be met by 0 alone.
        String base = "dance gap 2 odds 0 rain 0; round 0 of 0 begins 0; round 1 of 0 begins 0; answers 0 0; answers 3 1;";
        OverHill x = told(base + "stumble 0 at 10 does 3 lag 0; stumble 1 at 8 does 3 lag 0; stumble 0 at 50 does 2 lag 0;");
        // BEAT 10: SIDE 0 dances 3, hears 3: a HOLE by both; without the first: it dances 0 and hears 3;
        // without the second: 3 hears 0. SIDE 1 in 12 dances 0, hears 3. SIDE 0 in 50 dances 2: fine.
        // SIDE 1 in 52 hears 2: a HOLE. SIDE 1 in 8 dances 3 and hears 0: a HOLE.
        due("14", x.hole(0, 10), 1);
        due("14", x.hole(1, 12), 1);
        due("14", x.hole(1, 8), 1);
        due("14", x.hole(1, 52), 1);
        due("16", x.holes(0, 0, 199) + x.holes(1, 0, 199), 4);
        due("19: first", x.undoes(0), 1);
        due("19: second", x.undoes(1), 1);
        due("19: third", x.undoes(2), 1);
        due("19: none such", x.undoes(3), -1000);
        due("19: none such", x.undoes(-1), -1000);
        due("20: each alone", x.causes(0, 10), 0);
        due("20: one", x.causes(1, 12), 1);
        due("20: one", x.causes(1, 8), 1);
        due("20: no hole", x.causes(0, 50), 0);
        // 3 may not meet 3 (a HOLE by either), but 0 may meet 3 and 3 may meet 0: both cause it
        OverHill y = told("dance gap 0 odds 0 rain 0; round 0 of 0 begins 0; round 1 of 0 begins 0; answers 3 0;"
            + "stumble 0 at 5 does 3 lag 0; stumble 1 at 5 does 3 lag 0;");
        due("20: both", y.causes(0, 5), 2);
        due("20: both", y.causes(1, 5), 2);
        due("19: both", y.undoes(0), 2);
        // A STUMBLE can mend: late by one, SIDE 0 meets SIDE 1
        OverHill z = told("dance gap 0 odds 0 rain 0; round 0 of 0 1 begins 0; round 1 of 1 0 begins 0; answers 0 0; answers 1 1;"
            + "stumble 0 at 0 does 0 lag 1;");
        due("16", z.holes(0, 0, 199), 1);
        due("19: it mends", z.undoes(0), 2 - 400);
        due("20: not by it", z.causes(0, 0), 0);
        OverHill b = told("dance gap 0 odds 0 rain 0; round 0 of 0 begins 0; round 1 of 0 begins 0; answers 0 0;"
            + "stumble 1 at 0 does 2 lag 0; stumble 0 at 199 does 2 lag 0;");
        due("19: BEAT 0", b.undoes(0), 1);
        due("19: BEAT 199", b.undoes(1), 1);
        OverHill c = told("dance gap 0 odds 0 rain 0; round 0 of 0 begins 0; round 1 of 0 begins 0; answers 3;"
            + "stumble 1 at 0 does 3 lag 0;");
        due("19: BEAT 0 on SIDE 1", c.undoes(0), 1);
        OverHill m = told(PLAIN + "stumble 0 at 4 does 5 lag 1; mud 4;");
        due("19: in mud it is none", m.undoes(0), 0);
        due("13: in mud it is none", m.late(0, 5), 1);
    }

    // ---------------------------------------------------------------- 21 to 28: rounds

    private static void periods() {
        OverHill x = told(PLAIN);
        due("21", x.period(), 6);
        due("21: one of both is none", told(HEAD + "round 0 of 1 2 begins 0;").period(), NONE);
        due("21: both are none", told(HEAD).period(), NONE);
        OverHill y = told(HEAD + "round 0 of " + times(12, "1 ") + "begins 0; round 1 of " + times(11, "2 ") + "begins 3;");
        due("21", y.period(), 132);
        due("21: four and six", told(HEAD + "round 0 of 1 1 1 1 begins 0; round 1 of 1 1 1 1 1 1 begins 3;").period(), 12);
        due("22", x.meets(0, 1, 0), 0);
        due("22", x.meets(0, 0, 0), 3);
        due("22", x.meets(2, 1, 0), 2);
        due("22", x.meets(2, 1, 3), 8);
        due("22: beyond the last", x.meets(2, 1, 199), 200);
        due("22: far beyond", x.meets(0, 0, 199), 201);
        OverHill same = told(HEAD + "round 0 of 1 2 begins 0; round 1 of 3 4 begins 1;");
        due("22: never", same.meets(0, 0, 0), NONE);
        due("22: at once", same.meets(0, 1, 0), 0);
        due("22: STUMBLES and MUD aside", told(STUMBLED).meets(2, 1, 3), 8);
        due("22: no place", x.meets(3, 0, 0), -2);
        due("22: no place", x.meets(0, 2, 0), -2);
        due("22: no place", x.meets(-1, 0, 0), -2);
        due("22: no place", x.meets(0, -1, 0), -2);
        due("22: no round", told(HEAD + "round 0 of 1 begins 0;").meets(0, 0, 0), -2);
        for (int beat : WRONG_BEATS) {
            due("22: no beat", x.meets(0, 0, beat), -2);
        }
    }

    private static void shifts() {
        OverHill x = told(PLAIN);
        due("23", x.shifted(0), 3);
        due("23", x.shifted(1), 3);
        due("23: no such", x.shifted(2), -2);
        due("23: no such", x.shifted(-1), -2);
        due("24: by none", x.shift(), NONE);
        due("25: the least of several", x.least(), 0);
        // each STEP may be met by itself alone; SIDE 1 is one PLACE ahead, and by 2 (round) it is not
        String three = "round 0 of 0 1 2 begins 0; round 1 of 0 1 2 begins 1; answers 0 0; answers 1 1; answers 2 2;";
        OverHill y = told("dance gap 0 odds 0 rain 0;" + three);
        due("23", y.shifted(0), 6);
        due("23", y.shifted(1), 6);
        due("23", y.shifted(2), 0);
        due("24", y.shift(), 2);
        due("25", y.least(), 2);
        // with gap 3 it is the same; with gap 1 one of both never meets the other
        OverHill g = told("dance gap 3 odds 0 rain 0;" + three + "mud 7; stumble 0 at 3 does 1 lag 1;");
        due("23: gap 3, STUMBLES and MUD aside", g.shifted(2), 0);
        due("24: gap 3", g.shift(), 2);
        OverHill h = told("dance gap 1 odds 0 rain 0;" + three);
        // SIDE 0 hears n + 1 - 1 ahead, SIDE 1 hears n + 1 + 1 behind: n = 0, 1 mend one each, n = 2 none
        due("23: gap 1", h.shifted(0), 3);
        due("23: gap 1", h.shifted(1), 3);
        due("23: gap 1", h.shifted(2), 6);
        due("24: gap 1", h.shift(), NONE);
        due("25: gap 1", h.least(), 0);
        OverHill one = told(HEAD + "round 0 of 1 begins 0;");
        due("23: not both", one.shifted(0), -2);
        due("24: not both", one.shift(), -2);
        due("25: not both", one.least(), -2);
    }

    private static void mending() {
        OverHill x = told(PLAIN);
        due("26", x.mend(0), 2);
        due("26", x.mend(1), 1);
        for (int i = 0; i < 3; i++) {
            due("27", x.mended(0, i), 1);
        }
        due("27: as it is", x.mended(1, 0), 1);
        due("27", x.mended(1, 1), 1);
        due("28: none", x.stuck(0), NONE);
        due("27: no such place", x.mended(0, 3), -2);
        due("27: no such place", x.mended(1, 2), -2);
        due("27: no such place", x.mended(0, -1), -2);
        for (int i = 0; i < 3; i++) {
            x.teach(0, i, x.mended(0, i));
        }
        due("26: mended", x.mend(0), 0);
        due("26: the other, too", x.mend(1), 0);
        due("26: no hole", x.holes(0, 0, 199) + x.holes(1, 0, 199), 0);
        // nothing may meet 0, and SIDE 0 dances 0 in its PLACE 1 alone
        OverHill y = told("dance gap 0 odds 0 rain 0; round 0 of 1 0 begins 0; round 1 of 2 3 begins 0; answers 0;");
        due("26: it can't be", y.mend(1), NONE);
        due("27: it can't be", y.mended(1, 0), NONE);
        due("27: no such place first", y.mended(1, 2), -2);
        due("28", y.stuck(1), 1);
        due("26: the other can", y.mend(0), 1);
        due("27: the least", y.mended(0, 1), 1);
        due("27: as it is", y.mended(0, 0), 1);
        due("28: the other can", y.stuck(0), NONE);
        for (int side : WRONG_SIDES) {
            due("26: no side", x.mend(side), -2);
            due("27: no side", x.mended(side, 0), -2);
            due("28: no side", x.stuck(side), -2);
        }
        OverHill one = told(HEAD + "round 0 of 1 begins 0;");
        due("26: not both", one.mend(0), -2);
        due("27: not both", one.mended(0, 0), -2);
        due("28: not both", one.stuck(0), -2);
    }

    // ---------------------------------------------------------------- 29 to 33: who stumbled

    private static final String ALWAYS = "dance gap 0 odds 0 rain 0; round 1 of 0 begins 0;";
    private static final String BY_TURNS = "dance gap 2 odds 0 rain 0; round 1 of 0 1 begins 0;";
    private static final long SIXTY = (1L << 60) - 1;

    private static void guessed(String what, OverHill x, int side, long... due) {
        due("29: " + what, x.heard(0, side), due[0]);
        due("30: " + what, x.first(0, side), due[1]);
        due("31: " + what, x.when(0, side), due[2]);
        due("32: " + what, x.listen(0, side), due[3]);
        due("33: " + what, x.leaves(0, side), due[4]);
    }

    private static void stumblesHeard() {
        // in BEAT 0 fifty of them are heard as another STEP (ten of each)
        guessed("empty", withRow(ALWAYS, 0, 0), 0, 3601, 0, SIXTY, 0, 3551);
        guessed("one", withRow(ALWAYS, 0, 1, 5, 3), 0, 10, 331, 1 << 5, NONE, 10);
        guessed("its own", withRow(ALWAYS, 0, 1, 5, 0), 0, 3551, 0, SIXTY, 0, 3501);
        guessed("twice", withRow(ALWAYS, 0, 1, 5, 3, 5, 3), 0, 10, 331, 1 << 5, NONE, 10);
        guessed("two unlike", withRow(ALWAYS, 0, 1, 5, 3, 5, 2), 0, 0, NONE, 0, NONE, 0);
        guessed("two stumbles", withRow(ALWAYS, 0, 1, 5, 3, 6, 2), 0, 0, NONE, 0, NONE, 0);
        guessed("behind the sixtieth", withRow(ALWAYS, 0, 1, 60, 3), 0, 0, NONE, 0, NONE, 0);
        guessed("the last", withRow(ALWAYS, 0, 1, 59, 5), 0, 10, 1 + 60 * 59 + 50, 1L << 59, NONE, 10);
        guessed("none heard", withRow(ALWAYS, 0, 1, 5, -1), 0, 0, NONE, 0, NONE, 0);
        guessed("mud", withRow(ALWAYS + "mud 5;", 0, 1, 5, -1), 0, 3601, 0, SIXTY, 0, 3551);
        guessed("mud", withRow(ALWAYS + "mud 5;", 0, 1, 5, 3), 0, 0, NONE, 0, NONE, 0);
        guessed("no round", withRow(ALWAYS, 0, 1, 5, -1), 1, 3601, 0, SIXTY, NONE, 3601);
        guessed("no round", withRow(ALWAYS, 0, 1, 5, 0), 1, 0, NONE, 0, NONE, 0);
        // STUMBLES told of that SIDE are aside
        guessed("in place of all", withRow(ALWAYS + "stumble 1 at 7 does 4 lag 0;", 0, 1, 7, 0), 0, 3551, 0, SIXTY, 0, 3501);
        // gap 2: heard in 7 is danced in 5; behind it lags are even or not
        guessed("by turns", withRow(BY_TURNS, 0, 1, 7, 3), 0, 10, 331, 1 << 5, 8, 5);
        guessed("by turns, even", withRow(BY_TURNS, 0, 1, 7, 3, 8, 0), 0, 5, 331, 1 << 5, NONE, 5);
        guessed("by turns, odd", withRow(BY_TURNS, 0, 1, 7, 3, 8, 1), 0, 5, 332, 1 << 5, NONE, 5);
        guessed("ahead of it as without", withRow(BY_TURNS, 0, 1, 7, 3, 6, 1), 0, 0, NONE, 0, NONE, 0);
        guessed("ahead of the gap", withRow(BY_TURNS, 0, 1, 1, -1), 0, 3601, 0, SIXTY, 61, leftByTurns());
        guessed("ahead of the gap", withRow(BY_TURNS, 0, 1, 1, 0), 0, 0, NONE, 0, NONE, 0);
        // BEAT 199 tells that the lag is even: 30 of each BEAT, of which five go on as without in it.
        guessed("the last beat", withRow(BY_TURNS, 0, 1, 199, 1), 0, 1801, 0, SIXTY, 2, 1776);
        // of twelve PLACES 4 is in one: no lag but none
        String twelve = "dance gap 0 odds 0 rain 0; round 1 of 0 1 2 3 4 5 0 0 0 0 0 0 begins 0;";
        guessed("no lag", withRow(twelve, 0, 1, 5, 3, 16, 4), 0, 1, 331, 1 << 5, NONE, 1);
        guessed("lag 1", withRow(twelve, 0, 1, 5, 3, 17, 4), 0, 1, 332, 1 << 5, NONE, 1);
        guessed("lag 9", withRow(twelve, 0, 1, 5, 3, 25, 4), 0, 1, 340, 1 << 5, NONE, 1);
        OverHill alone = withRow(BY_TURNS, 0, 1, 7, 3);
        due("33: asked alone", alone.leaves(0, 0), 5);
        // MUD up to BEAT 58: the first that tells is danced in 59 and heard in 79; of 80 none is asked
        StringBuilder mud = new StringBuilder("dance gap 20 odds 0 rain 0; round 1 of 0 1 begins 0;");
        for (int beat = 0; beat < 59; beat++) {
            mud.append("mud ").append(beat).append(';');
        }
        guessed("the last to listen", withRow(mud.toString(), 0, 1), 0, 3601, 0, SIXTY, 79, 3551);
        guessed("beyond the last to listen", withRow(mud.toString(), 0, 1, 79, 3), 0, 10, 1 + 60 * 59 + 30, 1L << 59, NONE, 10);
        due("29: cut to a byte", withRow(BY_TURNS, 0, 0, 199, 1).heard(0, 0), -2);
    }

    /**
     * Danced in BEAT 59 (heard in 61) STEP 1 as without: those without, of BEAT 59 with STEP 1 (10),
     * of earlier BEATS with an even lag: 30 each; STEP 0: 59 times 30 and 10. BEAT 60: of all 60
     * BEATS 30 each are odd: 1800 and one are heard as without.
     */
    private static long leftByTurns() {
        long one = 1 + 10 + 59 * 30;
        long zero = 59 * 30 + 10;
        return Math.max(one, zero);
    }

    private static void heardRefused() {
        OverHill x = told(ALWAYS);
        for (int slot : WRONG_SLOTS) {
            due("29: no slot", x.heard(slot, 0), -2);
            due("30: no slot", x.first(slot, 0), -2);
            due("31: no slot", x.when(slot, 0), -2);
            due("32: no slot", x.listen(slot, 0), -2);
            due("33: no slot", x.leaves(slot, 0), -2);
        }
        guessed("nothing", x, 0, -6, -6, -6, -6, -6);
        for (int wrongSide : WRONG_SIDES) {
            guessed("no side", x, wrongSide, -2, -2, -2, -2, -2);
        }
        long[][] rows = {{0}, {0, 1, 2}, {200, 1}, {-1, 1}, {0, 6}, {0, -2}, {0, 0, 0, 6}};
        for (long[] row : rows) {
            putRow(x, 0, 2, row);
            guessed("no such number", x, 0, -2, -2, -2, -2, -2);
        }
        putRow(x, 0, 3, 1L << 32, 0);
        guessed("a number of eight bytes", x, 0, -2, -2, -2, -2, -2);
        OverHill none = withRow("", 0, 1, 0, 0);
        guessed("no dance", none, 0, -2, -2, -2, -2, -2);
    }

    // ---------------------------------------------------------------- 34 to 38: the wood

    private static void throughTheWood() {
        OverHill x = told(HEAD + "wood every 3 at 1; wood every 2 at 0;");
        due("34", x.crosses(0), 4);
        due("34", x.crosses(1), 4);
        due("34", x.crosses(2), 8);
        due("34", x.crosses(5), 10);
        due("35", x.returns(0), 3);
        due("35", x.returns(1), 6);
        due("35: beyond the last", x.returns(199), 204);
        due("36", x.meet(0, 0), 2);
        due("37", x.cell(0, 0), 0);
        due("36: the later tells", x.meet(0, 7), 9);
        due("37: in the last", x.cell(0, 7), 1);
        due("36: the other waits", x.meet(30, 0), 32);
        due("37: in the first", x.cell(30, 0), 0);
        due("38", x.longest(), 6);
        OverHill y = told(HEAD + "wood every 1 at 0; wood every 1 at 0;");
        due("36: of several", y.meet(0, 0), 2);
        due("37: the least of several", y.cell(0, 0), 0);
        due("36", y.meet(5, 0), 6);
        due("37", y.cell(5, 0), 0);
        due("36", y.meet(0, 5), 6);
        due("37", y.cell(0, 5), 1);
        due("38", y.longest(), 3);
        OverHill n = told(HEAD + "wood every 9 at 0;");
        due("34: beyond the last", n.crosses(199), 209);
        due("38", n.longest(), 10);
        OverHill none = told(HEAD);
        due("34: without a wood", none.crosses(5), 6);
        due("35: without a wood", none.returns(199), 200);
        due("36: without a wood", none.meet(5, 5), NONE);
        due("37: without a wood", none.cell(5, 5), NONE);
        due("38: without a wood", none.longest(), 1);
        for (int beat : WRONG_BEATS) {
            due("34: no beat", x.crosses(beat), -2);
            due("35: no beat", x.returns(beat), -2);
            due("36: no beat", x.meet(beat, 0), -2);
            due("36: no beat", x.meet(0, beat), -2);
            due("37: no beat", x.cell(beat, 0), -2);
            due("37: no beat", x.cell(0, beat), -2);
            due("36: no beat, no wood", none.meet(beat, 0), -2);
        }
    }

    private static void longestOfTheBeats() {
        due("38: from BEAT 0 alone", told(HEAD + "wood every 7 at 6; wood every 4 at 2; wood every 9 at 1; wood every 6 at 0;"
            + "wood every 9 at 4;").longest(), 33);
        due("38: from BEAT 199 alone", told(HEAD + "wood every 7 at 2; wood every 5 at 0; wood every 9 at 2; wood every 5 at 3;"
            + "wood every 2 at 0;").longest(), 27);
        due("38: not from 200, which is none", told(HEAD + "wood every 8 at 7; wood every 7 at 4; wood every 9 at 6;"
            + "wood every 9 at 5;").longest(), 31);
    }

    // ---------------------------------------------------------------- 39 to 47

    private static void halves() {
        OverHill x = withRow("", 1, 0, 0, 1, -1, 0, -1, 2);
        due("39", x.half(1), 3);
        due("40", x.fills(1, 0), 0);
        due("40", x.fills(1, 1), 1);
        due("40", x.fills(1, 2), 2);
        due("40: there is none", x.fills(1, 3), NONE);
        due("40: there is none", x.fills(1, -1), NONE);
        due("41", x.open(1), 0);
        OverHill y = withRow(PLAIN, 2, 3, 0, -1, 1);
        due("39", y.half(2), 3);
        due("40: not told", y.fills(2, 1), NONE);
        due("40: told", y.fills(2, 2), 1);
        due("41", y.open(2), 1);
        long[] thirteen = new long[14];
        thirteen[13] = 1;
        OverHill n = withRow("", 0, 2, thirteen);
        due("39: none", n.half(0), NONE);
        due("40: none", n.fills(0, 0), NONE);
        due("41: none", n.open(0), NONE);
        long[] twelve = new long[13];
        twelve[11] = 5;
        OverHill t = withRow("", 0, 2, twelve);
        due("39: twelve", t.half(0), 12);
        due("40: twelve", t.fills(0, 11), 5);
        OverHill e = withRow("", 3, 0);
        due("39: empty", e.half(3), 1);
        due("40: empty", e.fills(3, 0), NONE);
        due("41: empty", e.open(3), 1);
        for (int slot : WRONG_SLOTS) {
            due("39: no slot", x.half(slot), -2);
            due("40: no slot", x.fills(slot, 0), -2);
            due("41: no slot", x.open(slot), -2);
        }
        due("39: nothing", x.half(0), -6);
        due("40: nothing", x.fills(0, 0), -6);
        due("41: nothing", x.open(0), -6);
        for (long number : new long[] {6, -2, 1L << 40, Long.MIN_VALUE}) {
            OverHill w = withRow("", 0, 3, 0, number);
            due("39: no step", w.half(0), -2);
            due("40: no step", w.fills(0, 0), -2);
            due("40: no step", w.fills(0, 77), -2);
            due("41: no step", w.open(0), -2);
        }
    }

    private static void tunes() {
        OverHill x = told(HEAD + "tune 4 at 1; tune 6 at 3; tune 5 at 0; tune 2 at 0;");
        due("42", x.together(3, 0), 9);
        due("42: from one on", x.together(3, 9), 9);
        due("42", x.together(3, 10), 21);
        due("42", x.together(7, 0), 45);
        due("42", x.together(7, 46), 105);
        due("42: one", x.together(8, 199), 200);
        due("42: none of them", x.together(0, 7), 7);
        due("42: never", x.together(9, 0), NONE);
        due("42: no set", x.together(16, 0), -2);
        due("42: no set", x.together(-1, 0), -2);
        due("42: no set", x.together(Integer.MIN_VALUE, 0), -2);
        due("43", x.again(3), 12);
        due("43", x.again(7), 60);
        due("43: never", x.again(9), 4);
        due("43: none of them", x.again(0), 1);
        due("43: no set", x.again(16), -2);
        due("43: no set", x.again(-1), -2);
        due("44", x.most(), 3);
        due("45", x.chorus(), 7);
        for (int beat : WRONG_BEATS) {
            due("42: no beat", x.together(0, beat), -2);
        }
        OverHill far = told(HEAD + "tune 29 at 28; tune 30 at 29; tune 23 at 22; tune 19 at 18; tune 17 at 16;");
        due("42: far", far.together(3, 0), 869);
        due("43: far", far.again(3), 870);
        due("42: all", far.together(31, 0), 29L * 30 * 23 * 19 * 17 - 1);
        due("43: all", far.again(31), 29L * 30 * 23 * 19 * 17);
        due("44: all", far.most(), 5);
        due("45: all", far.chorus(), 31);
        OverHill two = told(HEAD + "tune 2 at 0; tune 2 at 1; tune 4 at 3; tune 4 at 2;");
        due("44: two", two.most(), 2);
        due("45: the least set", two.chorus(), 6);
        OverHill none = told(HEAD);
        due("42: without", none.together(0, 3), 3);
        due("42: without", none.together(1, 3), -2);
        due("43: without", none.again(0), 1);
        due("44: without", none.most(), 0);
        due("45: without", none.chorus(), 0);
        OverHill one = told(HEAD + "tune 1 at 0;");
        due("44: one", one.most(), 1);
        due("45: one", one.chorus(), 1);
    }

    private static void treatiesAndLeads() {
        due("46: all", told(HEAD).treaties(), 36);
        due("46", told(PLAIN).treaties(), 20);
        due("46: none", told(HEAD + "answers 0;answers 1;answers 2;answers 3;answers 4;answers 5;").treaties(), 0);
        due("46: itself", told(HEAD + "answers 0;answers 1;answers 2;answers 3;answers 4;answers 5 5;").treaties(), 1);
        due("46: both ways", told(HEAD + "answers 0 1;answers 1 0;answers 2 0;answers 3;answers 4;answers 5;").treaties(), 2);
        due("47: most", told(PLAIN).leads(0), 1);
        due("47: fewest", told(PLAIN).leads(1), 0);
        due("47: the least of several", told(HEAD).leads(0), 0);
        due("47: the least of several", told(HEAD).leads(1), 0);
        OverHill x = told(HEAD + "answers 0 1; answers 1 0 2; answers 2 1 3; answers 3; answers 4; answers 5 0;");
        due("47: most", x.leads(0), 1);
        due("47: fewest", x.leads(1), 3);
        due("47: no such", x.leads(2), -2);
        due("47: no such", x.leads(-1), -2);
    }

    // ---------------------------------------------------------------- 48 to 53

    private static void games() {
        OverHill x = told(HEAD + "answers 0 1; answers 1 0; answers 2; answers 3 3; answers 4 2 3 5; answers 5 3;");
        int[] plays = {1, 0, NONE, 3, 2, NONE};
        for (int step = 0; step < 6; step++) {
            due("48: game(" + step + ")", x.game(step), plays[step] == NONE ? 0 : 1);
            due("49: plays(" + step + ")", x.plays(step), plays[step]);
        }
        for (int step : WRONG_STEPS) {
            due("48: no step", x.game(step), -2);
            due("49: no step", x.plays(step), -2);
        }
        // each STEP by itself alone: told once, danced once more, and the other can't
        OverHill y = told(HEAD + "answers 0 0;");
        due("48", y.game(0), 1);
        due("49", y.plays(0), 0);
        // all may meet all: eleven dances are left, so the first wins, by any STEP
        OverHill all = told(HEAD);
        for (int step = 0; step < 6; step++) {
            due("48: all", all.game(step), 1);
            due("49: all", all.plays(step), 0);
        }
    }

    private static void rain() {
        OverHill x = told("dance gap 0 odds 0 rain 25;");
        due("50", x.dry(1, 0), 3);
        due("50", x.dry(1, 1), 4);
        due("50", x.dry(3, 0), 27);
        due("50", x.dry(3, 1), 64);
        due("51", x.wet(3, 1, 0), 27);
        due("51", x.wet(3, 1, 1), 64);
        due("51: lowest terms", x.wet(2, 1, 0), 3);
        due("51: lowest terms", x.wet(2, 1, 1), 8);
        due("51", x.wet(3, 3, 0), 1);
        due("51", x.wet(3, 3, 1), 64);
        due("51: none of them", x.wet(2, 0, 0), 9);
        OverHill never = told("dance gap 0 odds 0 rain 0;");
        due("50: never", never.dry(9, 0), 1);
        due("50: never", never.dry(9, 1), 1);
        due("51: never", never.wet(4, 2, 0), 0);
        due("51: never", never.wet(4, 2, 1), 1);
        due("51: never", never.wet(4, 0, 0), 1);
        OverHill always = told("dance gap 0 odds 0 rain 100;");
        due("50: always", always.dry(1, 0), 0);
        due("50: always", always.dry(9, 1), 1);
        due("51: always", always.wet(9, 9, 0), 1);
        due("51: always", always.wet(9, 8, 0), 0);
        OverHill rare = told("dance gap 0 odds 0 rain 1;");
        due("50: large", rare.dry(9, 0), 913517247483640899L);
        due("50: large", rare.dry(9, 1), 1000000000000000000L);
        due("51: large", rare.wet(9, 9, 0), 1);
        due("51: large", rare.wet(9, 9, 1), 1000000000000000000L);
        for (int n : new int[] {0, 10, -1, Integer.MAX_VALUE, Integer.MIN_VALUE}) {
            due("50: no n", x.dry(n, 0), -2);
            due("51: no n", x.wet(n, 0, 0), -2);
        }
        for (int k : new int[] {-1, 4, Integer.MAX_VALUE, Integer.MIN_VALUE}) {
            due("51: no k", x.wet(3, k, 0), -2);
        }
        for (int what : new int[] {-1, 2, Integer.MAX_VALUE}) {
            due("50: no what", x.dry(3, what), -2);
            due("51: no what", x.wet(3, 1, what), -2);
        }
    }

    /**
     * From seed 1 the draws are 38 58 13, 15, 51 27 10, 19, 12, 86 49 67, 84 60 25, 43 89 83 (the
     * well known row 16838, 5758, 10113, .. modulo 100): SIDE 1 slips in BEATS 0 and 2, BEATS 1, 3
     * and 4 are mud. SIDE 0 dances 0 . 1 . . 2 0 1, SIDE 1 dances 3 . 2 . . 2 1 2.
     */
    private static void drawnNights() {
        OverHill x = told(PLAIN + "mud 0; stumble 0 at 2 does 2 lag 1;");
        due("52: holes", x.drawn(1, 8, 0), 1);
        due("52: the first", x.drawn(1, 8, 1), 6);
        due("52: mud", x.drawn(1, 8, 2), 3);
        due("52: slips", x.drawn(1, 8, 3), 2);
        due("52: none yet", x.drawn(1, 6, 0), 0);
        due("52: none yet", x.drawn(1, 6, 1), NONE);
        due("52: one beat", x.drawn(1, 1, 3), 1);
        due("53: calm", x.nights(1, 1, 6), 1);
        due("53: not calm", x.nights(1, 1, 7), 0);
        due("53: the last seed", x.nights(2000000000, 1, 9), x.drawn(2000000000, 9, 0) == 0 ? 1 : 0);
        int sum = 0;
        for (int seed = 5; seed < 25; seed++) {
            sum += x.drawn(seed, 9, 0) == 0 ? 1 : 0;
        }
        due("53: twenty", x.nights(5, 20, 9), sum);
        for (int n : new int[] {0, 101, -1, Integer.MAX_VALUE}) {
            due("52: no n", x.drawn(1, n, 0), -2);
            due("53: no n", x.nights(1, 1, n), -2);
        }
        for (int seed : new int[] {-1, 2000000001, Integer.MAX_VALUE, Integer.MIN_VALUE}) {
            due("52: no seed", x.drawn(seed, 5, 0), -2);
            due("53: no seed", x.nights(seed, 1, 5), -2);
        }
        for (int what : new int[] {-1, 4, Integer.MAX_VALUE}) {
            due("52: no what", x.drawn(1, 5, what), -2);
        }
        for (int m : new int[] {0, 21, -1, Integer.MAX_VALUE}) {
            due("53: no m", x.nights(1, m, 5), -2);
        }
        // without ROUNDS there is one draw each BEAT: 38 58 13 15 51 27 10 19 12 86
        OverHill none = told(HEAD);
        due("52: no rounds", none.drawn(1, 10, 2), 5);
        // seed 0: x is 12345, then 1103515245 times it and 12345 modulo 2 to the 31st: 1406932606, 21468 of 65536
        due("52: seed 0", none.drawn(0, 1, 2), 1);
        due("52: seed 0", told("dance gap 0 odds 0 rain 68;").drawn(0, 2, 2), 1);
        due("52: seed 0", told("dance gap 0 odds 0 rain 69;").drawn(0, 2, 2), 2);
        due("53: seed 0", none.nights(0, 2, 5), 2);
        due("52: no rounds", none.drawn(1, 10, 3), 0);
        // SIDE 1 alone: 38 58, 13, 15, 51 27, 10, 19, 12, 86 49
        OverHill one = told(HEAD + "round 1 of 5 begins 0;");
        due("52: one round", one.drawn(1, 8, 2), 5);
        due("52: one round", one.drawn(1, 8, 3), 0);
        // odds 100: 5 becomes 0, 0 becomes 1
        OverHill slips = told("dance gap 0 odds 100 rain 0; round 0 of 5 begins 0; round 1 of 0 begins 0; answers 0 0;");
        due("52: five slips to nought", slips.drawn(7, 10, 0), 10);
        due("52: all slip", slips.drawn(7, 10, 3), 20);
        due("52: at once", slips.drawn(7, 10, 1), 0);
        OverHill rains = told("dance gap 0 odds 100 rain 100; round 0 of 5 begins 0;");
        due("52: all mud", rains.drawn(7, 100, 2), 100);
        due("52: none dances", rains.drawn(7, 100, 3), 0);
    }

    // ---------------------------------------------------------------- 54 to 60

    private static void changes() {
        OverHill x = told(PLAIN + "stumble 1 at 3 does 2 lag 1;");
        due("54", x.stumble(0, 2, 4, 2), 1);
        due("54: danced", x.danced(0, 2), 4);
        due("54: late", x.late(0, 3), 2);
        due("54: told", x.stumbled(1, 3), 2);
        due("54: that side and beat", x.stumble(0, 2, 1, 0), -5);
        due("54: that side and beat told", x.stumble(1, 3, 1, 0), -5);
        due("54: another side", x.stumble(1, 2, 1, 9), 2);
        due("58: changes", x.count(9), 2);
        due("58: stumbles", x.count(5), 3);
        for (int beat = 100; beat < 105; beat++) {
            due("54: up to eight", x.stumble(0, beat, 0, 0), beat - 97);
        }
        due("54: eight", x.stumble(0, 199, 0, 0), -5);
        due("54: no such, though eight", x.stumble(0, 200, 0, 0), -2);
        due("57", x.undo(), 6);
        due("57: one less", x.count(5), 7);
        due("57: none such", x.stumbled(7, 0), -2);
        due("54: again", x.stumble(1, 199, 5, 9), 7);
        for (int side : WRONG_SIDES) {
            due("54: no side", x.stumble(side, 0, 0, 0), -2);
            due("56: no side", x.teach(side, 0, 0), -2);
        }
        for (int beat : WRONG_BEATS) {
            due("54: no beat", x.stumble(0, beat, 0, 0), -2);
            due("55: no beat", x.mud(beat, 0), -2);
        }
        for (int step : WRONG_STEPS) {
            due("54: no step", x.stumble(0, 0, step, 0), -2);
            due("56: no step", x.teach(0, 0, step), -2);
        }
        due("54: no lag", x.stumble(0, 0, 0, 10), -2);
        due("54: no lag", x.stumble(0, 0, 0, -1), -2);
        due("55: no is", x.mud(0, 2), -2);
        due("55: no is", x.mud(0, -1), -2);
        due("56: no place", x.teach(0, 3, 0), -2);
        due("56: no place", x.teach(0, -1, 0), -2);
        due("58: nothing came", x.count(9), 7);
    }

    private static void mudAndTeaching() {
        OverHill x = told(PLAIN + "mud 7;");
        due("55: it was", x.mud(7, 0), 1);
        due("55: not now", x.muddy(7), 0);
        due("55: danced", x.danced(0, 7), 1);
        due("55: it was not", x.mud(7, 1), 0);
        due("55: danced", x.danced(0, 7), NONE);
        due("55: as it is", x.mud(7, 1), 1);
        due("58: each is a change", x.count(9), 3);
        due("58: mud", x.count(6), 1);
        due("56: which it had", x.teach(0, 2, 5), 2);
        due("56: now", x.step(0, 2), 5);
        due("56: danced", x.danced(0, 2), 5);
        due("56: again", x.teach(0, 2, 4), 5);
        due("56: the other", x.teach(1, 1, 0), 2);
        due("57", x.undo(), 5);
        due("57", x.step(1, 1), 2);
        due("57", x.undo(), 4);
        due("57", x.step(0, 2), 5);
        due("57", x.undo(), 3);
        due("57", x.step(0, 2), 2);
        due("57", x.danced(0, 2), 2);
        due("57", x.undo(), 2);
        due("57", x.muddy(7), 1);
        due("57", x.undo(), 1);
        due("57", x.muddy(7), 0);
        due("57", x.undo(), 0);
        due("57", x.muddy(7), 1);
        due("57", x.danced(0, 7), NONE);
        due("57: there is none", x.undo(), -5);
        due("56: no round", told(HEAD).teach(0, 0, 0), -2);
        due("57: none", told(HEAD).undo(), -5);
        for (int i = 0; i < 40; i++) {
            due("55: forty", x.mud(i, 1), i == 7 ? 1 : 0);
        }
        due("54: forty", x.stumble(0, 0, 0, 0), -5);
        due("55: forty", x.mud(0, 0), -5);
        due("56: forty", x.teach(0, 0, 0), -5);
        due("54: no such, though forty", x.stumble(2, 0, 0, 0), -2);
        due("55: no such, though forty", x.mud(200, 0), -2);
        due("56: no such, though forty", x.teach(0, 3, 0), -2);
        due("58: forty", x.count(9), 40);
        due("57", x.undo(), 39);
        due("54: one more", x.stumble(0, 0, 0, 0), 0);
        due("58: mud", x.count(6), 39);
    }

    private static void counts() {
        OverHill x = told("dance gap 3 odds 4 rain 5; round 0 of 1 2 3 begins 0; round 1 of 1 begins 0; round 1 of 1 2 begins 0;"
            + "stumble 0 at 0 does 0 lag 0; mud 1; mud 2; mud 3; wood every 2 at 0; wood every 2 at 0; tune 3 at 1; tune 3 at 2;"
            + "tune 3 at 0; tune 2 at 0;");
        int[] due = {3, 4, 5, 3, 2, 1, 3, 2, 4, 0, 14, 0, 0};
        for (int what = 0; what <= 12; what++) {
            due("58: count(" + what + ")", x.count(what), due[what]);
        }
        x.mud(9, 1);
        x.feed(0, 0, 0, 0, 0);
        x.row(3, 0, 0);
        x.row(3, 0, 4);
        x.row(1, 0, 4);
        due("58: mud", x.count(6), 4);
        due("58: changes", x.count(9), 1);
        due("58: lines stay", x.count(10), 14);
        due("58: tape", x.count(11), 20);
        due("58: slots", x.count(12), 2);
        for (int what : new int[] {-1, 13, Integer.MIN_VALUE, Integer.MAX_VALUE}) {
            due("58: others", x.count(what), NONE);
        }
    }

    private static void imagesTaken() {
        OverHill x = new OverHill();
        for (int k : new int[] {-1, 3, Integer.MIN_VALUE, Integer.MAX_VALUE}) {
            due("59: no such", x.image(k), -2);
            due("60: no such", x.back(k), -2);
        }
        due("60: nothing", x.back(0), -6);
        due("59: of none", x.image(0), 0);
        Texts.tell(x, PLAIN + "mud 3;");
        x.stumble(0, 2, 4, 2);
        x.teach(1, 0, 5);
        due("59", x.image(1), 0);
        x.mud(3, 0);
        x.undo();
        x.undo();
        x.undo();
        due("59", x.image(2), 0);
        due("60", x.back(1), 0);
        due("60: changes", x.count(9), 2);
        due("60: taught", x.step(1, 0), 5);
        due("60: stumbled", x.danced(0, 2), 4);
        due("57: behind back", x.undo(), 1);
        due("57: behind back", x.step(1, 0), 1);
        due("57: behind back", x.undo(), 0);
        due("57: behind back", x.danced(0, 2), 2);
        x.mud(100, 1);
        x.mud(101, 1);
        due("60: again", x.back(1), 0);
        due("60: the image stays", x.step(1, 0), 5);
        due("60: its changes stay", x.undo(), 1);
        due("60: its changes stay", x.step(1, 0), 1);
        due("60: its changes stay", x.undo(), 0);
        due("60: its changes stay", x.danced(0, 2), 2);
        due("60: its mud stays", x.count(6), 1);
        Texts.put(x, "dance gap 0");
        x.row(2, 1, 1);
        x.dance();
        due("60", x.back(0), 0);
        due("60: none", x.step(0, 0), -2);
        due("60: no lines", x.count(10), 0);
        due("60: the tape is not the image's", x.count(11), 11);
        due("60: nor is a fault", x.fault(0), 1);
        due("60: nor are slots", x.count(12), 1);
        due("60", x.back(2), 0);
        due("60: as it was", x.count(9), 0);
        due("60: as it was", x.muddy(3), 1);
        due("60: as it was", x.count(10), 6);
        Texts.tell(x, "dance gap 9 odds 0 rain 0; round 0 of 1 begins 0; tune 3 at 1; wood every 2 at 1; answers 3;");
        due("59: in place of another", x.image(2), 0);
        x.back(1);
        due("60: tunes of the image", x.count(8), 0);
        due("60: wood of the image", x.count(7), 0);
        due("60: answers of the image", x.answers(3), 63);
        x.back(2);
        due("60: gap", x.count(0), 9);
        due("60: tune", x.together(1, 0), 1);
        due("60: wood", x.crosses(0), 3);
        due("60: answers", x.answers(3), 0);
        due("60: one round", x.period(), NONE);
    }

    // ---------------------------------------------------------------- 61 to 63

    private static void rowsAndWriting() {
        OverHill x = new OverHill();
        for (int slot : WRONG_SLOTS) {
            due("61: no slot", x.row(slot, 0, 1), -2);
            due("61: no slot", x.row(slot, 0, -1), -2);
            due("62: no slot", x.write(slot, 0, 1), -2);
        }
        due("61: no width", x.row(0, 4, 1), -2);
        due("61: no width", x.row(0, -1, 1), -2);
        due("61: no width", x.row(0, 4, -1), -2);
        due("61: too many", x.row(0, 0, 61), -2);
        due("61: too many", x.row(0, 0, Integer.MAX_VALUE), -2);
        due("61: below 0", x.row(0, 0, -1), -3);
        due("61: below 0", x.row(0, 0, Integer.MIN_VALUE), -3);
        due("61: nothing came", x.count(12), 0);
        due("62: nothing", x.write(0, 0, 1), -6);
        due("61: sixty", x.row(0, 3, 60), 0);
        due("62: the last", x.write(0, 59, 5), 0);
        due("39: sixty zeros and five", x.half(0), NONE);
        due("61: below 0 stays", x.row(0, 0, -1), -3);
        due("61: stayed", x.half(0), NONE);
        due("62: no such number", x.write(0, 60, 1), -7);
        due("62: no such number", x.write(0, -1, 1), -7);
        due("61: all 0", x.row(0, 3, 60), 0);
        due("61: all 0", x.fills(0, 0), 0);
        due("61: all 0", x.half(0), 1);
        due("61: empty", x.row(0, 3, 0), 0);
        due("62: empty", x.write(0, 0, 1), -7);
        // cut: 256 and 3 is 3 in a byte; 255 is -1; 2 to the 16th, to the 32nd likewise
        long[] over = {1L << 8, 1L << 16, 1L << 32};
        for (int width = 0; width < 3; width++) {
            x.row(1, width, 2);
            due("62: cut", x.write(1, 0, over[width] + 3), 0);
            due("62: cut to " + width, x.fills(1, 0), 3);
            x.write(1, 0, over[width] - 1);
            x.write(1, 1, 4);
            due("62: below 0 by cutting", x.half(1), 1);
            due("62: below 0 by cutting", x.fills(1, 0), 4);
            x.write(1, 0, (over[width] >> 1) + 3);
            due("62: not cut so far", x.half(1), -2);
        }
        x.row(1, 3, 1);
        x.write(1, 0, (1L << 32) + 3);
        due("62: eight bytes", x.half(1), -2);
        x.write(1, 0, -1);
        due("62: eight bytes", x.half(1), 1);
    }

    /** Rows of sixty: the last one, and one ahead of a row that holds what is none such. */
    private static void fullRows() {
        for (int slot = 0; slot < 4; slot++) {
            OverHill x = told(ALWAYS);
            putRow(x, (slot + 1) % 4, 1, 777, 777);
            putRow(x, slot, 1, new long[60]);
            due("39: sixty", x.half(slot), 1);
            due("40: sixty", x.fills(slot, 0), 0);
            due("41: sixty", x.open(slot), 0);
            due("29: sixty", x.heard(slot, 0), 3551);
            due("30: sixty", x.first(slot, 0), 0);
            due("62: the last of sixty", x.write(slot, 59, 6), 0);
            due("29: the last is none such", x.heard(slot, 0), -2);
            due("39: the last is none such", x.half(slot), -2);
            due("63: the last of sixty", x.paste(slot, 0, slot, 59, 1), 0);
            due("29: as it was", x.heard(slot, 0), 3551);
            due("63: beyond sixty", x.paste(slot, 0, slot, 59, 2), -7);
            due("63: all sixty", x.paste(slot, 0, slot, 0, 60), 0);
        }
    }

    private static void fullRounds() {
        String twelve = "0 1 2 3 4 5 0 1 2 3 4 5 begins 11;";
        OverHill x = told(HEAD + "round 0 of " + twelve + "round 1 of " + twelve);
        for (int side = 0; side < 2; side++) {
            due("26: twelve", x.mend(side), 0);
            due("27: twelve", x.mended(side, 11), 5);
            due("27: twelve", x.mended(side, 12), -2);
            due("28: twelve", x.stuck(side), NONE);
            due("10: twelve", x.place(side, 0), 11);
            due("10: round", x.place(side, 1), 0);
            due("56: twelve", x.teach(side, 11, 0), 5);
            due("56: twelve", x.teach(side, 12, 0), -2);
        }
        due("23: twelve", x.shifted(11), 0);
        due("23: twelve", x.shifted(12), -2);
        due("24: twelve", x.shift(), 0);
    }

    private static void pasting() {
        OverHill x = new OverHill();
        putRow(x, 0, 1, 0, 1, 2, 3, 4, 5);
        putRow(x, 1, 1, 0, 0, 0, 0);
        for (int slot : WRONG_SLOTS) {
            due("63: no slot", x.paste(slot, 0, 0, 0, 0), -2);
            due("63: no slot", x.paste(0, 0, slot, 0, 0), -2);
        }
        due("63: nothing", x.paste(0, 0, 2, 0, 0), -6);
        due("63: nothing", x.paste(2, 0, 0, 0, 0), -6);
        putRow(x, 2, 2, 0, 0);
        due("63: widths", x.paste(0, 0, 2, 0, 0), -8);
        due("63: widths first", x.paste(0, -1, 2, 0, 99), -8);
        due("63: beyond", x.paste(0, 4, 1, 0, 3), -7);
        due("63: beyond", x.paste(0, 0, 1, 2, 3), -7);
        due("63: below 0", x.paste(0, -1, 1, 0, 1), -7);
        due("63: below 0", x.paste(0, 0, 1, -1, 1), -7);
        due("63: below 0", x.paste(0, 0, 1, 0, -1), -7);
        due("63: far", x.paste(0, Integer.MAX_VALUE, 1, 0, 1), -7);
        due("63: far", x.paste(0, 1, 1, 0, Integer.MAX_VALUE), -7);
        due("63: nothing happened", x.half(1), 1);
        due("63", x.paste(0, 2, 1, 1, 3), 0);
        int[] due = {0, 2, 3, 4};
        for (int i = 0; i < 4; i++) {
            due("63: put " + i, x.fills(1, i), due[i]);
        }
        due("63: none", x.paste(0, 6, 1, 4, 0), 0);
        due("63: its own, as they were", x.paste(0, 0, 0, 1, 5), 0);
        int[] up = {0, 0, 1, 2, 3, 4};
        for (int i = 0; i < 6; i++) {
            due("63: up " + i, x.fills(0, i), up[i]);
        }
        due("63: its own, as they were", x.paste(0, 2, 0, 0, 4), 0);
        int[] down = {1, 2, 3, 4, 3, 4};
        for (int i = 0; i < 6; i++) {
            due("63: down " + i, x.fills(0, i), down[i]);
        }
    }

    public static void main(String[] args) {
        newObject();
        feeding();
        ending();
        dancing();
        faults();
        misplaced();
        outOfBounds();
        tooMany();
        toldSteps();
        toldAnswers();
        toldStumbles();
        toldMud();
        sixCalls();
        theHoles();
        undoing();
        periods();
        shifts();
        mending();
        stumblesHeard();
        heardRefused();
        throughTheWood();
        longestOfTheBeats();
        halves();
        tunes();
        treatiesAndLeads();
        games();
        rain();
        drawnNights();
        changes();
        mudAndTeaching();
        counts();
        imagesTaken();
        rowsAndWriting();
        fullRows();
        fullRounds();
        pasting();
        System.out.println(wrong == 0 ? asked + " answers are as due" : wrong + " answers are not as due");
        if (wrong != 0) {
            System.exit(1);
        }
    }
}
