/** I, and promises 1 to 9: the TAPE, its LINES, FAULTS, and what is told by them. */
final class TextEdges extends Edges {
    private static final int H = HEAD.length();
    /** One that has some of everything. */
    private static final String ANOTHER = "dance gap 2 odds 3 rain 4;round 0 of 5 5 begins 1;round 1 of 4 begins 0;answers 1;"
        + "stumble 0 at 8 does 1 lag 0;mud 9;wood every 2 at 1;tune 2 at 1;";

    @Override
    void all() {
        grammar();
        bounds();
        rounds();
        answers();
        stumblesAndMud();
        woodAndTunes();
        tokens();
        faults();
        tooMany();
        promise1();
        promise2();
        promise3();
        promise4();
        promise5();
        promise6();
        promise7();
        promise8();
        promise9();
    }

    /** Behind some text each of these TOKENS is due: another one there, or the end, is a FAULT 1. */
    private static void eachIsDue(String ahead, String... tokens) {
        String text = ahead;
        for (int i = 0; i < tokens.length; i++) {
            faulty(text + "x", 1, text.length());
            faulty(text + "#", 1, text.length());
            if (i > 0) {
                faulty(text, 1, text.length());
            }
            text += tokens[i] + " ";
        }
        right(text, text.split(";").length - 1);
    }

    private static void grammar() {
        sentence("I", "DANCE: {LINE ;}", () -> {
            right("", 0);
            right(" \n \n", 0);
            right(HEAD, 1);
            faulty(";", 1, 0);
            faulty(HEAD + ";", 1, H);
            faulty(HEAD + "mud 3;;", 1, H + 6);
            faulty(HEAD + "mud 3", 1, H + 5);
            faulty(HEAD + "mud 3 mud 4;", 1, H + 6);
        });
        sentence("I", "dance gap N odds N rain N", () -> {
            eachIsDue("", "dance", "gap", "3", "odds", "4", "rain", "5", ";");
            faulty("dance odds 4 gap 3 rain 5;", 1, 6);
            faulty("dance gap 3 odds 4 rain 5 6;", 1, 26);
        });
        sentence("I", "round S of T {T} begins N", () -> {
            eachIsDue(HEAD, "round", "0", "of", "1", "begins", "0", ";");
            eachIsDue(HEAD, "round", "1", "of", "1", "2", "3", "begins", "2", ";");
            faulty(HEAD + "round 0 of 1 begins 0 0;", 1, H + 22);
            faulty(HEAD + "round 0 of 1 2;", 1, H + 14);
        });
        sentence("I", "answers T {T}", () -> {
            eachIsDue(HEAD, "answers", "1", ";");
            eachIsDue(HEAD, "answers", "1", "2", "3", ";");
            faulty(HEAD + "answers;", 1, H + 7);
        });
        sentence("I", "stumble S at B does T lag N", () -> {
            eachIsDue(HEAD, "stumble", "0", "at", "7", "does", "3", "lag", "2", ";");
            faulty(HEAD + "stumble 0 at 7 lag 2 does 3;", 1, H + 15);
            faulty(HEAD + "stumble 0 at 7 does 3 lag 2 2;", 1, H + 28);
        });
        sentence("I", "mud B", () -> {
            eachIsDue(HEAD, "mud", "7", ";");
            faulty(HEAD + "mud 7 8;", 1, H + 6);
        });
        sentence("I", "wood every N at N", () -> {
            eachIsDue(HEAD, "wood", "every", "3", "at", "1", ";");
            faulty(HEAD + "wood 3 at 1;", 1, H + 5);
        });
        sentence("I", "tune N at N", () -> {
            eachIsDue(HEAD, "tune", "3", "at", "1", ";");
            faulty(HEAD + "tune every 3 at 1;", 1, H + 5);
        });
        sentence("I", "dance is the first LINE and no other", () -> {
            faulty(HEAD + HEAD, 1, H);
            faulty(HEAD + "mud 3;" + HEAD, 1, H + 6);
            String[] lines = {"round 0 of 1 begins 0;", "answers 1;", "stumble 0 at 7 does 3 lag 2;", "mud 7;", "wood every 3 at 1;",
                "tune 3 at 1;"};
            for (String line : lines) {
                faulty(line, 1, 0);
                faulty("\n " + line + HEAD, 1, 2);
                right(HEAD + line, 2);
            }
        });
    }

    private static void bounds() {
        sentence("I", "gap 0 .. 20", () -> bounds("dance gap ", 0, 20, " odds 0 rain 0;", x -> x.count(0)));
        sentence("I", "odds, rain 0 .. 100", () -> {
            bounds("dance gap 0 odds ", 0, 100, " rain 0;", x -> x.count(1));
            bounds("dance gap 0 odds 0 rain ", 0, 100, ";", x -> x.count(2));
        });
        sentence("I", "S a SIDE 0, 1", () -> {
            // the length of SIDE 1's ROUND is 1, if it is SIDE 1's, else 0
            bounds(HEAD + "round ", 0, 1, " of 3 begins 0;", x -> x.count(4));
            bounds(HEAD + "stumble ", 0, 1, " at 0 does 0 lag 0;", x -> x.stumbled(0, 0));
        });
        sentence("I", "T a STEP 0 .. 5", () -> {
            bounds(HEAD + "round 0 of ", 0, 5, " begins 0;", x -> x.step(0, 0));
            bounds(HEAD + "round 1 of 3 ", 0, 5, " begins 0;", x -> x.step(1, 1));
            bounds(HEAD + "answers ", 0, 5, ";", x -> x.answers(0) == 0 ? 0 : x.answers(5) == 0 ? 5 : NONE);
            bounds(HEAD + "answers 2 ", 0, 5, ";", x -> x.answers(2) == 1 ? 0 : x.answers(2) == 32 ? 5 : NONE);
            bounds(HEAD + "answers 2 3 ", 0, 5, ";", x -> x.answers(2) == 9 ? 0 : x.answers(2) == 40 ? 5 : NONE);
            bounds(HEAD + "stumble 0 at 0 does ", 0, 5, " lag 0;", x -> x.stumbled(0, 2));
        });
        sentence("I", "B a BEAT 0 .. 199", () -> {
            bounds(HEAD + "stumble 1 at ", 0, 199, " does 0 lag 0;", x -> x.stumbled(0, 1));
            bounds(HEAD + "mud ", 0, 199, ";", x -> x.muddy(0) == 1 ? 0 : x.muddy(199) == 1 ? 199 : NONE);
        });
    }

    private static void rounds() {
        sentence("I", "round: one to twelve STEPS", () -> {
            faulty(HEAD + "round 0 of begins 0;", 1, H + 11);
            for (int n = 1; n <= 12; n++) {
                for (int side = 0; side < 2; side++) {
                    OverHill x = told(HEAD + "round " + side + " of " + steps(n, "4") + "begins 0;");
                    due("length of SIDE " + side + " with " + n, x.count(3 + side), n);
                    due("the last of " + n, x.step(side, n - 1), 4);
                    due("beyond the last of " + n, x.step(side, n), NONE);
                }
            }
            faulty(HEAD + "round 0 of " + steps(13, "4") + "begins 0;", 3, H + 11 + 24);
        });
        sentence("I", "begins a PLACE of it", () -> {
            for (int n = 1; n <= 12; n++) {
                for (int side = 0; side < 2; side++) {
                    int s = side;
                    bounds(HEAD + "round " + s + " of " + steps(n, "4") + "begins ", 0, n - 1, ";", x -> x.place(s, 0));
                }
            }
            // a PLACE of the later one, not of the one that it strikes
            faulty(HEAD + "round 0 of 1 2 3 begins 2;round 0 of 4 begins 1;", 2, H + 26 + 20);
        });
        sentence("I", "(a later one of that SIDE strikes)", () -> {
            OverHill x = told(HEAD + "round 0 of 1 2 3 begins 2;round 1 of 5 begins 0;round 0 of 4 begins 0;");
            due("length", x.count(3), 1);
            due("STEP 0", x.step(0, 0), 4);
            due("STEP 1", x.step(0, 1), NONE);
            due("begins", x.place(0, 0), 0);
            due("the other SIDE stays", x.step(1, 0), 5);
            due("LINES", x.count(10), 4);
            OverHill y = told(HEAD + "round 1 of 4 begins 0;round 1 of 1 2 3 begins 2;round 1 of 3 2 5 begins 1;");
            due("longer", y.count(4), 3);
            due("STEP 2", y.step(1, 2), 5);
            due("begins", y.danced(1, 0), 2);
        });
    }

    private static void answers() {
        sentence("I", "answers: the first STEP may be met by those behind it alone", () -> {
            OverHill x = told(HEAD + "answers 1 0 5;");
            due("of 1", x.answers(1), 33);
            due("not of those behind it", x.answers(0), 63);
            due("not of those behind it", x.answers(5), 63);
            due("itself", told(HEAD + "answers 3 3;").answers(3), 8);
            due("all", told(HEAD + "answers 3 5 4 3 2 1 0;").answers(3), 63);
        });
        sentence("I", "like ones count once", () -> {
            due("twice", told(HEAD + "answers 1 2 2;").answers(1), 4);
            due("thirty times", told(HEAD + "answers 1 " + steps(30, "2") + "3;").answers(1), 12);
        });
        sentence("I", "a later one of it strikes", () -> {
            OverHill x = told(HEAD + "answers 1 2 3;answers 2 0;answers 1 4;");
            due("of 1", x.answers(1), 16);
            due("of 2", x.answers(2), 1);
            due("by none", told(HEAD + "answers 1 2 3;answers 1;").answers(1), 0);
            due("by some again", told(HEAD + "answers 1;answers 1 2 3;").answers(1), 12);
        });
        sentence("I", "without one: by all", () -> {
            for (int step = 0; step < 6; step++) {
                due("of " + step, told(HEAD).answers(step), 63);
            }
            due("with one of another", told(HEAD + "answers 0;").answers(1), 63);
        });
        sentence("I", "none behind it: by none", () -> {
            for (int step = 0; step < 6; step++) {
                due("of " + step, told(HEAD + "answers " + step + ";").answers(step), 0);
            }
        });
    }

    private static void stumblesAndMud() {
        sentence("I", "stumble: no other of that SIDE and BEAT", () -> {
            for (int side = 0; side < 2; side++) {
                for (int beat : new int[] {0, 7, 199}) {
                    String one = HEAD + "stumble " + side + " at " + beat + " does 5 lag 9;";
                    faulty(one + "stumble " + side + " at " + beat + " does 0 lag 0;", 2, one.length() + 13);
                    right(one + "stumble " + (1 - side) + " at " + beat + " does 5 lag 9;", 3);
                    right(one + "stumble " + side + " at " + (beat == 0 ? 1 : beat - 1) + " does 5 lag 9;", 3);
                }
            }
        });
        sentence("I", "lag 0 .. 9", () -> bounds(HEAD + "stumble 1 at 3 does 4 lag ", 0, 9, ";", x -> x.stumbled(0, 3)));
        sentence("I", "mud: none yet", () -> {
            faulty(HEAD + "mud 0;mud 0;", 2, H + 10);
            faulty(HEAD + "mud 199;mud 7;mud 199;", 2, H + 18);
            faulty(HEAD + "mud 7;mud 007;", 2, H + 10);
            right(HEAD + "mud 0;mud 1;mud 199;", 4);
            right(HEAD + "stumble 0 at 7 does 0 lag 0;mud 7;stumble 1 at 7 does 0 lag 0;", 4);
        });
    }

    private static void woodAndTunes() {
        sentence("I", "wood: one more cell, every 1 .. 9, at 0 .. every less 1", () -> {
            due("no cell", told(HEAD).count(7), 0);
            due("one cell", told(HEAD + "wood every 1 at 0;").count(7), 1);
            due("one more", told(HEAD + "wood every 1 at 0;wood every 1 at 0;").count(7), 2);
            // who leaves in BEAT 1 waits for BEAT every, and is out two BEATS later
            bounds(HEAD + "wood every ", 1, 9, " at 0;", x -> x.crosses(1) - 2);
            for (int every = 1; every <= 9; every++) {
                bounds(HEAD + "wood every " + every + " at ", 0, every - 1, ";", x -> x.crosses(0) - 2);
            }
        });
        sentence("I", "tune: 1 .. 30, at 0 .. that less 1", () -> {
            bounds(HEAD + "tune ", 1, 30, " at 0;", x -> (int) x.again(1));
            for (int every = 1; every <= 30; every++) {
                bounds(HEAD + "tune " + every + " at ", 0, every - 1, ";", x -> (int) x.together(1, 0));
            }
        });
        sentence("I", "STUMBLES 0 .. 7, cells 0 .. 11, TUNES 0 .. 4 are numbered as they stand", () -> {
            StringBuilder text = new StringBuilder(HEAD);
            for (int k = 0; k < 8; k++) {
                text.append("stumble 1 at ").append(190 - k).append(" does 0 lag ").append(k).append(';');
            }
            for (int k = 0; k < 5; k++) {
                text.append("tune 30 at ").append(29 - k).append(';');
            }
            OverHill x = told(text.toString());
            for (int k = 0; k < 8; k++) {
                due("BEAT of STUMBLE " + k, x.stumbled(k, 1), 190 - k);
                due("lag of STUMBLE " + k, x.stumbled(k, 3), k);
            }
            for (int k = 0; k < 5; k++) {
                due("TUNE " + k, x.together(1 << k, 0), 29 - k);
            }
            // eleven cells that are open in every BEAT, and one of every 9 at 0 ahead of or behind them
            String free = "wood every 1 at 0;".repeat(11);
            OverHill ahead = told(HEAD + "wood every 9 at 0;" + free);
            due("in cell 1 in BEAT 11, both", ahead.meet(1, 0), 11);
            due("in cell 1", ahead.cell(1, 0), 1);
            due("out of cell 11 in BEAT 22", ahead.crosses(1), 22);
            due("he waits in the last", ahead.cell(1, 199), 11);
            due("cell 0 at once, from SIDE 0", ahead.crosses(0), 13);
            OverHill behind = told(HEAD + free + "wood every 9 at 0;");
            due("in cell 10 in BEAT 11, in cell 11 in BEAT 19", behind.crosses(0), 20);
            due("cell 11 at once, from SIDE 1", behind.returns(0), 13);
        });
    }

    private static void tokens() {
        sentence("I", "blanks (32, 10) aside", () -> {
            right("  \n dance\n\ngap 3 \n odds 4\nrain   5\n;\n mud\n7 ; ", 2);
            right("dance gap3odds4rain5;mud7;", 2);
            for (char sign : new char[] {0, 1, 9, 11, 12, 13, 31, 33, 160}) {
                faulty(HEAD + sign, 1, H);
                faulty("dance" + sign + "gap 3 odds 4 rain 5;", 1, 5);
                faulty("dance gap 3" + sign, 1, 11);
            }
        });
        sentence("I", "the longest: words (a .. z), numbers (digits), the sign ;", () -> {
            faulty("dancegap 3 odds 4 rain 5;", 1, 0);
            faulty("dance ga p 3 odds 4 rain 5;", 1, 6);
            faulty("danc", 1, 0);
            faulty("dancee", 1, 0);
            for (char sign = 'a'; sign <= 'z'; sign++) {
                faulty("dance" + sign + " gap 3", 1, 0);
                if (sign != 'd') {
                    faulty(sign + "ance gap 3", 1, 0);
                }
                if (sign != 'm') {
                    faulty(HEAD + sign + "ud 3;", 1, H);
                }
                if (sign != 'p') {
                    faulty("dance ga" + sign + " 3", 1, 6);
                }
            }
            for (char sign = '0'; sign <= '9'; sign++) {
                due("digits", told(HEAD + "mud 1" + sign + ";").muddy(10 + sign - '0'), 1);
            }
            faulty(HEAD + "mud 1 9;", 1, H + 6);
            faulty(HEAD + "mudmud 7;", 1, H);
            due("one number", told("dance gap 20 odds 000000000000000000000100 rain 007;").count(1), 100);
            due("one number", told("dance gap 20 odds 000000000000000000000100 rain 007;").count(2), 7);
            due("a and z, 0 and 9", told("dance gap 10 odds 90 rain 9;").count(1), 90);
            for (char sign : new char[] {'`', '{', '@', 'A', 'G', 'Z', '/', ':', '<', '-', '+', '.', ',', 127, 128, 155, 187, 225, 255}) {
                faulty("dance " + sign + "gap 3", 1, 6);
                faulty("dance gap" + sign + "3", 1, 9);
                faulty("dance gap " + sign + "3", 1, 10);
                faulty("dance gap 3" + sign, 1, 11);
            }
        });
    }

    private static void faults() {
        sentence("I", "FAULTS, the first by its place", () -> {
            faulty("dance gap 21 #", 2, 10);
            faulty("dance gap 3 # rain 101;", 1, 12);
            faulty("# dance gap 21", 1, 0);
            faulty(HEAD + "mud 200;dance", 2, H + 4);
            faulty(HEAD + "round 2 of 6 begins 12;", 2, H + 6);
            faulty(HEAD + "round 0 of 6 begins 12;", 2, H + 11);
            faulty(HEAD + "stumble 0 at 3 does 0 lag 0;stumble 0 at 3 does 6 lag 10;", 2, H + 28 + 13);
            faulty(HEAD + "stumble 2 at 200 does 6 lag 10;", 2, H + 8);
            faulty(HEAD + "wood every 10 at 10;", 2, H + 11);
            faulty(HEAD + "tune 31 at 31", 2, H + 5);
        });
        sentence("I", "(a TOKEN's first byte; the end's)", () -> {
            faulty("dance gap   100 odds", 2, 12);
            faulty("  wrong", 1, 2);
            faulty("dance", 1, 5);
            faulty("dance gap 3 odds 4 rain 5", 1, 25);
            faulty("dance gap 3 odds 4 rain 5 \n ", 1, 28);
            faulty("dance" + " ".repeat(1195), 1, 1200);
            faulty(" ".repeat(1199) + "x", 1, 1199);
            right(HEAD + " ".repeat(1174), 1);
        });
        sentence("I", "of one place the least", () -> {
            // a 13th STEP that is no STEP is a FAULT 2 and a FAULT 3
            faulty(HEAD + "round 0 of " + steps(12, "4") + "6 begins 0;", 2, H + 35);
            faulty(HEAD + "round 0 of " + steps(12, "4") + "5 begins 0;", 3, H + 35);
        });
        sentence("I", "1 a TOKEN that is none, or can't stand there (dance behind the first LINE, another word ahead of it)", () -> {
            faulty(HEAD + "?", 1, H);
            faulty(HEAD + "7", 1, H);
            faulty(HEAD + "dance", 1, H);
            faulty(HEAD + "gap 3;", 1, H);
            faulty(HEAD + "mud mud;", 1, H + 4);
            faulty("mud 3;", 1, 0);
            faulty("gap 3;", 1, 0);
            faulty("7", 1, 0);
        });
        sentence("I", "2 a number out of its bounds, not as said (of a SIDE and BEAT at the BEAT)", () -> {
            faulty("dance gap 21 odds 0 rain 0;", 2, 10);
            faulty(HEAD + "round 0 of 1 2 begins 2;", 2, H + 22);
            faulty(HEAD + "mud 7;mud 7;", 2, H + 10);
            faulty(HEAD + "stumble 1 at 7 does 0 lag 0;stumble 1 at 7 does 0 lag 0;", 2, H + 28 + 13);
        });
    }

    private static void tooMany() {
        sentence("I", "3 a 9th stumble, 13th wood, 6th tune, at its word", () -> {
            StringBuilder eight = new StringBuilder(HEAD);
            for (int k = 0; k < 7; k++) {
                eight.append("stumble ").append(k % 2).append(" at ").append(k).append(" does 0 lag 0;");
            }
            right(eight.toString(), 8);
            eight.append("stumble 0 at 199 does 0 lag 0;");
            right(eight.toString(), 9);
            faulty(eight + "stumble 0 at 198 does 0 lag 0;", 3, eight.length());
            faulty(eight + " stumble 2 at 200", 3, eight.length() + 1);
            faulty(eight + "stumble", 3, eight.length());
            faulty(eight + "stumble 0 at 199 does 0 lag 0;", 3, eight.length());
            right(eight + "wood every 1 at 0;tune 1 at 0;mud 3;", 12);
            String twelve = HEAD + "wood every 2 at 1;".repeat(12);
            right(HEAD + "wood every 2 at 1;".repeat(11), 12);
            right(twelve, 13);
            faulty(twelve + "wood every 2 at 1;", 3, twelve.length());
            faulty(twelve + "wood every 99", 3, twelve.length());
            right(twelve + "stumble 0 at 3 does 0 lag 0;tune 1 at 0;", 15);
            String five = HEAD + "tune 2 at 1;".repeat(5);
            right(HEAD + "tune 2 at 1;".repeat(4), 5);
            right(five, 6);
            faulty(five + "tune 2 at 1;", 3, five.length());
            faulty(five + "\n\ntune x", 3, five.length() + 2);
            right(five + "stumble 0 at 3 does 0 lag 0;wood every 1 at 0;", 8);
        });
        sentence("I", "a 13th STEP of a round, at it", () -> {
            right(HEAD + "round 1 of " + steps(12, "4") + "begins 0;", 2);
            faulty(HEAD + "round 1 of " + steps(13, "4") + "begins 0;", 3, H + 35);
            faulty(HEAD + "round 1 of " + steps(14, "4") + "begins 0;", 3, H + 35);
            faulty(HEAD + "round 1 of " + steps(12, "4") + "x", 1, H + 35);
            // of a ROUND, not of both, nor of the one that it strikes
            right(HEAD + ("round 0 of " + steps(12, "4") + "begins 0;round 1 of " + steps(12, "4") + "begins 0;").repeat(2), 5);
        });
    }

    private static void promise1() {
        sentence("1", "No DANCE", () -> {
            OverHill x = new OverHill();
            noDance(x);
            due("no byte on the TAPE", x.count(11), 0);
            due("no SLOT has a row", x.count(12), 0);
            for (int k = 0; k < 3; k++) {
                due("IMAGE " + k, x.back(k), -6);
            }
            for (int slot = 0; slot < 4; slot++) {
                due("SLOT " + slot, x.half(slot), -6);
            }
            noDance(x);
        });
    }

    private static void promise2() {
        sentence("2", "Twenty bytes come behind the TAPE, four of each number, the highest first", () -> {
            OverHill x = new OverHill();
            // "dance gap 7 odds 12 " and "rain 3;" and thirteen blanks
            x.feed(0x64616e63, 0x65206761, 0x70203720, 0x6f646473, 0x20313220);
            x.feed(0x7261696e, 0x20333b20, 0x20202020, 0x0a0a0a0a, 0x20202020);
            due("dance()", x.dance(), 1);
            due("gap", x.count(0), 7);
            due("odds", x.count(1), 12);
            due("rain", x.count(2), 3);
            // bytes above 127 come as they are: of -1 each is 255, which is no TOKEN
            x.feed(0x20202020, 0x202020ff, -1, -1, -1);
            due("dance()", x.dance(), -4);
            due("the first of 255", x.fault(1), 7);
        });
        sentence("2", "how many it has", () -> {
            OverHill x = new OverHill();
            for (int i = 1; i <= 60; i++) {
                due("feed " + i, x.feed(0, 0, 0, 0, 0), 20 * i);
                due("count(11)", x.count(11), 20 * i);
            }
            OverHill y = new OverHill();
            y.feed(0, 0, 0, 0, 0);
            y.end(1);
            due("behind one", y.feed(0, 0, 0, 0, 0), 21);
            y.end(0);
            due("behind none", y.feed(0, 0, 0, 0, 0), 20);
        });
        sentence("2", "NONE, and none come, if it would have more than 1,200", () -> {
            OverHill x = new OverHill();
            for (int i = 0; i < 60; i++) {
                x.feed(0x20202020, 0x20202020, 0x20202020, 0x20202020, 0x20202020);
            }
            due("full", x.feed(-1, -1, -1, -1, -1), NONE);
            due("none come", x.count(11), 1200);
            due("one less", x.end(1199), 1199);
            due("1,219", x.feed(-1, -1, -1, -1, -1), NONE);
            due("none come", x.count(11), 1199);
            due("1,181", x.end(1181), 1181);
            due("1,201", x.feed(-1, -1, -1, -1, -1), NONE);
            due("none come", x.count(11), 1181);
            due("1,180", x.end(1180), 1180);
            due("just 1,200", x.feed(0x20202020, 0x20202020, 0x20202020, 0x20202020, 0x20202020), 1200);
            due("blanks alone", x.dance(), 0);
            due("empty again", x.feed(0, 0, 0, 0, 0), 20);
        });
    }

    private static void promise3() {
        sentence("3", "The TAPE has its first n bytes alone: n", () -> {
            OverHill x = new OverHill();
            Texts.put(x, HEAD + "mud 3;mud 3;");
            due("the first ones", x.end(H + 6), H + 6);
            due("alone", x.count(11), H + 6);
            due("without the FAULT", x.dance(), 2);
            Texts.put(x, HEAD);
            due("all", x.end(H), H);
            due("one less", x.end(H - 1), H - 1);
            due("the ; is gone", x.dance(), -4);
            due("none", x.end(0), 0);
            due("none is left", x.count(11), 0);
            due("none again", x.end(0), 0);
        });
        sentence("3", "NONE, and nothing happens, if it has not so many, or n is below 0", () -> {
            OverHill x = new OverHill();
            due("not one", x.end(1), NONE);
            due("below 0", x.end(-1), NONE);
            Texts.put(x, HEAD);
            for (int n : new int[] {H + 1, 1200, MOST, -1, LEAST}) {
                due("end(" + n + ")", x.end(n), NONE);
                due("nothing happens", x.count(11), H);
            }
            due("bytes cut off do not come back", x.end(H - 1), H - 1);
            due("not so many any more", x.end(H), NONE);
            x.end(0);
            due("nor so", x.end(1), NONE);
        });
    }

    private static void promise4() {
        sentence("4", "The TAPE (empty then) is the DANCE", () -> {
            OverHill x = new OverHill();
            due("dance()", Texts.tell(x, HEAD + "mud 3;"), 2);
            due("empty then", x.count(11), 0);
            due("not one byte", x.end(1), NONE);
            due("the DANCE", x.muddy(3), 1);
            due("of blanks, too", Texts.tell(x, "   "), 0);
            due("empty then", x.count(11), 0);
        });
        sentence("4", "(in place of another)", () -> {
            OverHill x = told("dance gap 3 odds 4 rain 5;round 0 of 1 2 begins 1;round 1 of 1 2 3 begins 2;answers 1 2;"
                + "stumble 0 at 7 does 3 lag 2;mud 9;wood every 3 at 1;tune 3 at 1;");
            x.mud(10, 1);
            x.stumble(1, 8, 2, 1);
            due("danced ahead of it", x.danced(0, 7), 3);
            // thrice, as what is read may be held in several places
            for (int i = 0; i < 3; i++) {
                due("dance()", Texts.tell(x, HEAD), 1);
                int[] left = {0, 0, 0, 0, 0, 0, 0, 0, 0, 0, 1, 0, 0};
                for (int what = 0; what <= 12; what++) {
                    due("count(" + what + ")", x.count(what), left[what]);
                }
                due("answers", x.answers(1), 63);
                due("no MUD", x.muddy(9), 0);
                due("no ROUND", x.place(0, 0), NONE);
                due("none danced", x.danced(0, 7), NONE);
                due("no wood", x.crosses(0), 1);
                due("no STUMBLE", x.stumbled(0, 0), -2);
                due("no change", x.undo(), -5);
                due("another", Texts.tell(x, ANOTHER), 8);
                due("its gap", x.count(0), 2);
                due("danced", x.danced(0, 7), 5);
                x.mud(11, 1);
            }
        });
        sentence("4", "how many LINES", () -> {
            right(HEAD, 1);
            right(HEAD + "mud 3;\nmud 4;", 3);
            right(HEAD + "round 0 of 1 begins 0;round 0 of 2 begins 0;answers 1;answers 1 2;", 5);
            // 26 bytes, ten LINES of 5, 90 of 6 and 83 of 7 bytes
            StringBuilder muds = new StringBuilder(HEAD);
            for (int beat = 0; beat < 183; beat++) {
                muds.append("mud").append(beat).append(';');
            }
            due("bytes", muds.length(), 1197);
            right(muds.toString(), 184);
        });
        sentence("4", "(0: there is none then)", () -> {
            for (String text : new String[] {"", " ", "\n\n"}) {
                OverHill x = told(CALM + "stumble 0 at 3 does 2 lag 1;wood every 2 at 1;tune 2 at 1;mud 7;");
                x.mud(5, 1);
                x.image(1);
                due("dance()", Texts.tell(x, text), 0);
                noDance(x);
                due("IMAGES stay", x.back(1), 0);
                due("IMAGES stay", x.count(9), 1);
                for (int i = 0; i < 2; i++) {
                    Texts.tell(x, ANOTHER);
                    Texts.tell(x, ANOTHER);
                    x.mud(11, 1);
                    due("dance()", Texts.tell(x, text), 0);
                    noDance(x);
                }
            }
        });
        sentence("4", "-4: a FAULT (all stays)", () -> {
            OverHill x = told("dance gap 1 odds 4 rain 5;round 0 of 1 2 begins 1;answers 1 2;stumble 0 at 7 does 3 lag 2;mud 9;"
                + "wood every 3 at 1;tune 3 at 1;");
            x.mud(10, 1);
            x.row(2, 0, 3);
            Texts.put(x, "dance gap 9 odds 9 rain 9;round 0 of 5 begins 0;mud 4;answers 1;wood every 1 at 0;tune 2 at 0;mud 200;");
            due("dance()", x.dance(), -4);
            due("again", x.dance(), -4);
            int[] stays = {1, 4, 5, 2, 0, 1, 2, 1, 1, 1, 7, 102, 1};
            for (int what = 0; what <= 12; what++) {
                due("count(" + what + ")", x.count(what), stays[what]);
            }
            due("ROUND", x.step(0, 1), 2);
            due("begins", x.place(0, 0), 1);
            due("answers", x.answers(1), 4);
            due("MUD", x.muddy(4), 0);
            due("MUD", x.muddy(10), 1);
            due("TUNE", x.together(1, 0), 1);
            due("wood", x.crosses(0), 3);
            due("STUMBLE", x.danced(0, 7), 3);
            due("its change", x.undo(), 0);
            due("ended ahead of the FAULT", x.end(94), 94);
            due("it stands now", x.dance(), 6);
            due("gap", x.count(0), 9);
        });
    }

    private static void promise5() {
        sentence("5", "Of the latest dance(), what 0: its FAULT, 0 without, 1: its place (NONE without)", () -> {
            OverHill x = new OverHill();
            Texts.tell(x, HEAD + "mud 3;mud 3;");
            due("FAULT", x.fault(0), 2);
            due("place", x.fault(1), H + 10);
            x.end(0);
            due("until the next", x.fault(0), 2);
            Texts.tell(x, "?");
            due("FAULT", x.fault(0), 1);
            due("place 0", x.fault(1), 0);
            Texts.tell(x, HEAD + "round 0 of " + steps(13, "1"));
            due("FAULT", x.fault(0), 3);
            due("place", x.fault(1), H + 35);
            Texts.tell(x, HEAD);
            due("0 without", x.fault(0), 0);
            due("NONE without", x.fault(1), NONE);
            Texts.tell(x, "?");
            x.end(0);
            due("no LINE", x.dance(), 0);
            due("0 without", x.fault(0), 0);
            due("NONE without", x.fault(1), NONE);
        });
        sentence("5", "NONE for another what, and ahead of any (what 1)", () -> {
            OverHill x = new OverHill();
            due("ahead of any", x.fault(1), NONE);
            due("ahead of any, what 0", x.fault(0), 0);
            for (int what : NO_WHATS) {
                due("fault(" + what + ")", x.fault(what), NONE);
            }
            Texts.tell(x, "?");
            for (int what : NO_WHATS) {
                due("fault(" + what + ") with a FAULT", x.fault(what), NONE);
            }
        });
    }

    private static void promise6() {
        sentence("6", "STEP i (from 0) of a SIDE's ROUND", () -> {
            OverHill x = told(HEAD + "round 0 of 5 4 3 2 1 0 0 1 2 3 4 5 begins 7;round 1 of 3 begins 0;");
            for (int i = 0; i < 6; i++) {
                due("step(0, " + i + ")", x.step(0, i), 5 - i);
                due("step(0, " + (6 + i) + ")", x.step(0, 6 + i), i);
            }
            due("SIDE 1", x.step(1, 0), 3);
        });
        sentence("6", "NONE: there is none such", () -> {
            OverHill x = told(HEAD + "round 0 of " + steps(12, "4") + "begins 0;");
            for (int i : new int[] {-1, 12, 13, LEAST, MOST}) {
                due("step(0, " + i + ")", x.step(0, i), NONE);
            }
            for (int i : new int[] {-1, 0, 1, MOST}) {
                due("without a ROUND: step(1, " + i + ")", x.step(1, i), NONE);
            }
        });
        sentence("6", "-2: there is no such SIDE, no DANCE", () -> {
            OverHill x = told(CALM);
            for (int side : NO_SIDES) {
                due("step(" + side + ", 0)", x.step(side, 0), -2);
                due("nor such a STEP", x.step(side, 99), -2);
            }
            due("no DANCE", new OverHill().step(0, 0), -2);
            due("no DANCE, nor such a STEP", new OverHill().step(0, 99), -2);
        });
    }

    private static void promise7() {
        sentence("7", "STEPS that may meet a STEP, as bits", () -> {
            OverHill x = told(HEAD + "answers 0 0;answers 5 5;answers 3;answers 4 0 1 2 3 4;");
            int[] bits = {1, 63, 63, 0, 31, 32};
            for (int step = 0; step < 6; step++) {
                due("answers(" + step + ")", x.answers(step), bits[step]);
            }
        });
        sentence("7", "-2: there is none such, no DANCE", () -> {
            for (int step : NO_STEPS) {
                due("answers(" + step + ")", told(HEAD).answers(step), -2);
            }
            due("no DANCE", new OverHill().answers(0), -2);
        });
    }

    private static void promise8() {
        sentence("8", "Of a STUMBLE, what 0: the SIDE, 1: the BEAT, 2: the STEP, 3: lag", () -> {
            OverHill x = told(HEAD + "stumble 1 at 199 does 5 lag 9;stumble 0 at 0 does 0 lag 0;stumble 0 at 7 does 4 lag 3;");
            int[][] parts = {{1, 199, 5, 9}, {0, 0, 0, 0}, {0, 7, 4, 3}};
            for (int k = 0; k < 3; k++) {
                for (int what = 0; what < 4; what++) {
                    due("stumbled(" + k + ", " + what + ")", x.stumbled(k, what), parts[k][what]);
                }
            }
        });
        sentence("8", "-2: there are none such", () -> {
            OverHill x = told(HEAD + "stumble 1 at 199 does 5 lag 9;stumble 0 at 0 does 0 lag 0;");
            for (int k : new int[] {-1, 2, 7, 8, LEAST, MOST}) {
                due("stumbled(" + k + ", 0)", x.stumbled(k, 0), -2);
            }
            for (int what : new int[] {-1, 4, LEAST, MOST}) {
                due("stumbled(0, " + what + ")", x.stumbled(0, what), -2);
                due("stumbled(1, " + what + ")", x.stumbled(1, what), -2);
            }
            due("without any", told(HEAD).stumbled(0, 0), -2);
            due("no DANCE", new OverHill().stumbled(0, 0), -2);
        });
    }

    private static void promise9() {
        sentence("9", "Whether a BEAT is MUD: 1, 0", () -> {
            OverHill x = told(HEAD + "mud 0;mud 7;mud 199;");
            for (int beat = 0; beat < 200; beat++) {
                due("muddy(" + beat + ")", x.muddy(beat), beat == 0 || beat == 7 || beat == 199 ? 1 : 0);
            }
        });
        sentence("9", "-2: there is none such, no DANCE", () -> {
            for (int beat : NO_BEATS) {
                due("muddy(" + beat + ")", told(HEAD).muddy(beat), -2);
            }
            due("no DANCE", new OverHill().muddy(0), -2);
        });
    }
}
