/** II, and promises 10 to 20: who dances and hears what when, HOLES, and what undoes them. */
final class FloorEdges extends Edges {
    private static final String TWELVE = "0 1 2 3 4 5 5 4 3 2 1 0 ";

    @Override
    void all() {
        courses();
        hearing();
        promise10();
        promise11();
        promise12();
        promise13();
        promise14();
        promise15();
        promise16();
        promise17();
        promise18();
        promise19();
        promise20();
    }

    private static void courses() {
        sentence("II", "BEATS 0 .. 199", () -> {
            OverHill x = told(CALM);
            for (int side = 0; side < 2; side++) {
                due("BEAT 0", x.danced(side, 0), side);
                due("BEAT 199", x.danced(side, 199), side);
                due("BEAT -1", x.danced(side, -1), -2);
                due("BEAT 200", x.danced(side, 200), -2);
            }
        });
        sentence("II", "A SIDE is in the PLACE begins ahead of BEAT 0", () -> {
            for (int begins = 0; begins < 12; begins++) {
                String text = HEAD + "round 0 of " + TWELVE + "begins " + begins + ";round 1 of " + TWELVE + "begins " + (11 - begins) + ";";
                for (String more : new String[] {"", "mud 0;", "stumble 0 at 0 does 5 lag 9;stumble 1 at 0 does 5 lag 9;"}) {
                    due("SIDE 0", told(text + more).place(0, 0), begins);
                    due("SIDE 1", told(text + more).place(1, 0), 11 - begins);
                }
            }
        });
        sentence("II", "In a BEAT of MUD it dances none, and stays in its PLACE", () -> {
            OverHill x = told(HEAD + "round 0 of 3 4 5 begins 2;round 1 of 1 2 begins 1;mud 0;mud 1;mud 199;");
            for (int beat : new int[] {0, 1, 199}) {
                due("SIDE 0 in " + beat, x.danced(0, beat), NONE);
                due("SIDE 1 in " + beat, x.danced(1, beat), NONE);
            }
            for (int beat = 0; beat <= 2; beat++) {
                due("PLACE ahead of " + beat, x.place(0, beat), 2);
                due("PLACE ahead of " + beat, x.place(1, beat), 1);
            }
            due("then it goes on", x.danced(0, 2), 5);
            due("then it goes on", x.danced(0, 3), 3);
            due("then it goes on", x.place(1, 3), 0);
            due("ahead of the last", x.place(0, 199), (2 + 197) % 3);
        });
        sentence("II", "(a STUMBLE of that BEAT is none then)", () -> {
            OverHill x = told(HEAD + "round 0 of 3 4 5 begins 0;stumble 0 at 5 does 0 lag 1;mud 5;");
            due("danced", x.danced(0, 5), NONE);
            due("PLACE", x.place(0, 5), 2);
            due("stays", x.place(0, 6), 2);
            due("danced behind it", x.danced(0, 6), 5);
            due("it is told all the same", x.stumbled(0, 1), 5);
            x.mud(5, 0);
            due("danced without MUD", x.danced(0, 5), 0);
            due("PLACE without MUD", x.place(0, 6), 2);
            due("danced behind it", x.danced(0, 6), 5);
            due("next without MUD", x.place(0, 7), 0);
            // a STUMBLE is none in its own BEAT of MUD, not in the one behind it
            OverHill y = told(HEAD + "round 0 of 3 4 5 begins 0;stumble 0 at 5 does 0 lag 0;mud 4;mud 6;");
            due("MUD around it", y.danced(0, 5), 0);
        });
        sentence("II", "Else it dances the STEP of its PLACE, and is in the next one (round) ahead of the next BEAT", () -> {
            int[] twelve = {0, 1, 2, 3, 4, 5, 5, 4, 3, 2, 1, 0};
            String text = HEAD + "round 0 of " + TWELVE + "begins 11;round 1 of 4 begins 0;";
            OverHill x = told(text);
            OverHill y = told(text);
            for (int beat = 0; beat < 200; beat++) {
                due("place(0, " + beat + ")", x.place(0, beat), (11 + beat) % 12);
                due("danced(0, " + beat + ")", x.danced(0, beat), twelve[(11 + beat) % 12]);
                due("place(1, " + beat + ")", y.place(1, beat), 0);
                due("danced(1, " + beat + ")", y.danced(1, beat), 4);
            }
        });
        sentence("II", "by a STUMBLE it dances that STEP in place of it, and is then as many PLACES further back (round) as its lag", () -> {
            // from PLACE p by a lag into p + 1 - lag: of twelve, three and one PLACES
            int[] ofTwelve = {1, 0, 11, 10, 9, 8, 7, 6, 5, 4};
            int[] ofThree = {1, 0, 2, 1, 0, 2, 1, 0, 2, 1};
            for (int lag = 0; lag <= 9; lag++) {
                String end = "stumble 0 at 0 does 5 lag " + lag + ";";
                OverHill x = told(HEAD + "round 0 of " + TWELVE + "begins 0;" + end);
                due("danced", x.danced(0, 0), 5);
                due("lag " + lag + " of twelve", x.place(0, 1), ofTwelve[lag]);
                due("then on", x.place(0, 2), (ofTwelve[lag] + 1) % 12);
                due("lag " + lag + " of three", told(HEAD + "round 0 of 1 2 3 begins 0;" + end).place(0, 1), ofThree[lag]);
                due("lag " + lag + " of one", told(HEAD + "round 0 of 1 begins 0;" + end).place(0, 1), 0);
            }
            OverHill last = told(HEAD + "round 1 of 1 2 begins 0;stumble 1 at 199 does 5 lag 9;");
            due("BEAT 198", last.danced(1, 198), 1);
            due("BEAT 199", last.danced(1, 199), 5);
            // of the other SIDE it is none, and STUMBLES go on: lags of 2 and 3 are 5 PLACES
            OverHill two = told(HEAD + "round 0 of " + TWELVE + "begins 0;round 1 of " + TWELVE
                + "begins 0;stumble 1 at 3 does 0 lag 2;stumble 1 at 4 does 0 lag 3;");
            due("SIDE 0", two.place(0, 5), 5);
            due("SIDE 1 behind one", two.place(1, 4), 2);
            due("SIDE 1 behind both", two.place(1, 5), 0);
            due("SIDE 1 far behind", two.place(1, 199), (199 - 5) % 12);
        });
    }

    private static void hearing() {
        sentence("II", "A SIDE HEARS in a BEAT what the other SIDE danced so many BEATS ago as the gap (none ahead of BEAT 0)", () -> {
            for (int gap = 0; gap <= 20; gap++) {
                OverHill x = told("dance gap " + gap + " odds 0 rain 0;round 0 of 1 2 3 begins 0;round 1 of 5 4 begins 0;mud 150;");
                for (int beat = 0; beat < 200; beat++) {
                    // BEATS danced so far ahead of the one that is heard; behind BEAT 150 it is one less
                    int ago = beat - gap;
                    int danced = ago > 150 ? ago - 1 : ago;
                    boolean none = ago < 0 || ago == 150;
                    due("gap " + gap + ", BEAT " + beat, x.hears(0, beat), none ? NONE : 5 - danced % 2);
                    due("gap " + gap + ", BEAT " + beat, x.hears(1, beat), none ? NONE : 1 + danced % 3);
                }
                due("the first", x.hears(0, gap), 5);
                due("the first", x.hears(1, gap), 1);
            }
        });
        sentence("II", "HOLE: it dances a STEP and HEARS a STEP that may not meet that", () -> {
            // 0 may not be met by 1; 1 may be met by 0: a HOLE on SIDE 0 alone
            OverHill x = told("dance gap 2 odds 0 rain 0;round 0 of 0 begins 0;round 1 of 1 begins 0;answers 0 0 2 3 4 5;mud 7;");
            for (int beat = 0; beat < 200; beat++) {
                // none is heard ahead of BEAT 2 and in BEAT 9, none is danced in BEAT 7
                due("SIDE 0 in " + beat, x.hole(0, beat), beat < 2 || beat == 7 || beat == 9 ? 0 : 1);
                due("SIDE 1 in " + beat, x.hole(1, beat), 0);
            }
            OverHill both = told(HEAD + "round 0 of 0 begins 0;round 1 of 1 begins 0;answers 0;answers 1;");
            due("both in BEAT 0", both.hole(0, 0) + both.hole(1, 0), 2);
            due("both in BEAT 199", both.hole(0, 199) + both.hole(1, 199), 2);
            OverHill alone = told(HEAD + "round 0 of 0 begins 0;answers 0;");
            due("none is heard", alone.hole(0, 5), 0);
            due("none is danced", alone.hole(1, 5), 0);
        });
    }

    /** Of both SIDES and all BEATS there is none else: -2, and ahead of NONE. */
    private interface OfSideAndBeat {
        long ask(OverHill x, int side, int beat);
    }

    private static void noSuch(OfSideAndBeat call) {
        for (String text : new String[] {CALM, HEAD}) {
            OverHill x = told(text);
            for (int side : NO_SIDES) {
                due("SIDE " + side, call.ask(x, side, 0), -2);
            }
            for (int beat : NO_BEATS) {
                due("BEAT " + beat, call.ask(x, 0, beat), -2);
                due("BEAT " + beat, call.ask(x, 1, beat), -2);
            }
        }
        due("no DANCE", call.ask(new OverHill(), 0, 0), -2);
    }

    private static void promise10() {
        sentence("10", "PLACE of a SIDE's ROUND ahead of a BEAT", () -> {
            OverHill x = told(HEAD + "round 0 of 1 2 3 begins 1;round 1 of 1 begins 0;stumble 0 at 1 does 5 lag 2;mud 3;");
            // BEAT 0: 1; BEAT 1: 2, back by 2; BEAT 2: 1; BEAT 3: 2, MUD; BEAT 4: 2; BEAT 5: 0
            int[] places = {1, 2, 1, 2, 2, 0};
            for (int beat = 0; beat < 6; beat++) {
                due("place(0, " + beat + ")", x.place(0, beat), places[beat]);
                due("place(1, " + beat + ")", x.place(1, beat), 0);
            }
            due("BEAT 199", x.place(0, 199), 194 % 3);
        });
        sentence("10", "NONE: it has no ROUND", () -> {
            OverHill x = told(HEAD + "round 0 of 1 begins 0;stumble 1 at 0 does 3 lag 1;");
            due("BEAT 0", x.place(1, 0), NONE);
            due("BEAT 199", x.place(1, 199), NONE);
            due("the other has", x.place(0, 199), 0);
        });
        sentence("10", "-2: there are none such", () -> noSuch(OverHill::place));
    }

    private static void promise11() {
        sentence("11", "The STEP that is danced on a SIDE in a BEAT", () -> {
            OverHill x = told(HEAD + "round 0 of 1 2 begins 1;round 1 of 3 begins 0;stumble 1 at 199 does 0 lag 0;stumble 0 at 0 does 5 lag 0;");
            due("a STUMBLE in BEAT 0", x.danced(0, 0), 5);
            due("BEAT 1", x.danced(0, 1), 1);
            due("BEAT 199", x.danced(0, 199), 1);
            due("a STUMBLE in BEAT 199", x.danced(1, 199), 0);
            due("BEAT 198", x.danced(1, 198), 3);
        });
        sentence("11", "NONE: none", () -> {
            OverHill x = told(HEAD + "round 0 of 1 begins 0;mud 0;mud 199;");
            due("MUD", x.danced(0, 0), NONE);
            due("MUD", x.danced(0, 199), NONE);
            due("no MUD", x.danced(0, 198), 1);
            due("no ROUND", x.danced(1, 5), NONE);
        });
        sentence("11", "-2 likewise", () -> noSuch(OverHill::danced));
    }

    private static void promise12() {
        sentence("12", "The STEP that a SIDE hears in a BEAT", () -> {
            OverHill x = told(HEAD + "round 0 of 1 2 begins 1;round 1 of 3 4 5 begins 0;");
            due("gap 0: BEAT 0", x.hears(0, 0), 3);
            due("gap 0: BEAT 0", x.hears(1, 0), 2);
            due("gap 0: BEAT 199", x.hears(0, 199), 4);
            due("gap 0: BEAT 199", x.hears(1, 199), 1);
        });
        sentence("12", "NONE: none", () -> {
            OverHill x = told("dance gap 20 odds 0 rain 0;round 0 of 1 begins 0;round 1 of 2 begins 0;mud 179;");
            due("ahead of BEAT 0", x.hears(0, 0), NONE);
            due("ahead of BEAT 0", x.hears(1, 19), NONE);
            due("BEAT 0", x.hears(1, 20), 1);
            due("MUD then", x.hears(0, 199), NONE);
            due("MUD now is none", x.hears(0, 179), 2);
            due("no ROUND there", told(HEAD + "round 0 of 1 begins 0;").hears(0, 9), NONE);
            due("no ROUND here", told(HEAD + "round 0 of 1 begins 0;").hears(1, 9), 1);
        });
        sentence("12", "-2 likewise", () -> noSuch(OverHill::hears));
    }

    private static void promise13() {
        sentence("13", "By how many a SIDE's PLACE is behind what it would be without STUMBLES and MUD (round: 0 .. its length less 1)", () -> {
            OverHill x = told(HEAD + "round 0 of 1 2 3 begins 2;stumble 0 at 0 does 5 lag 2;mud 1;mud 2;stumble 0 at 5 does 5 lag 9;");
            // behind BEAT 0: 2; behind MUD 3 (round: 0) and 4 (1); behind BEAT 5: 13 (1)
            int[] late = {0, 2, 0, 1, 1, 1, 1, 1};
            for (int beat = 0; beat < 8; beat++) {
                due("late(0, " + beat + ")", x.late(0, beat), late[beat]);
            }
            due("BEAT 199", x.late(0, 199), 1);
            String twelve = HEAD + "round 1 of " + TWELVE + "begins 3;stumble 1 at 0 does 5 lag 9;";
            due("9 of twelve", told(twelve).late(1, 199), 9);
            due("11 of twelve", told(twelve + "mud 1;mud 2;").late(1, 199), 11);
            due("12 of twelve", told(twelve + "mud 1;mud 2;mud 3;").late(1, 199), 0);
            due("of one", told(HEAD + "round 1 of 4 begins 0;stumble 1 at 0 does 5 lag 9;").late(1, 5), 0);
            due("MUD of the last BEAT is behind it", told(HEAD + "round 1 of 4 5 begins 0;mud 199;").late(1, 199), 0);
            due("MUD ahead of it", told(HEAD + "round 1 of 4 5 begins 0;mud 198;").late(1, 199), 1);
        });
        sentence("13", "NONE: it has no ROUND", () -> {
            OverHill x = told(HEAD + "round 0 of 1 begins 0;mud 3;stumble 1 at 0 does 5 lag 2;");
            due("SIDE 1", x.late(1, 0), NONE);
            due("SIDE 1", x.late(1, 199), NONE);
            due("SIDE 0", x.late(0, 199), 0);
        });
        sentence("13", "-2 likewise", () -> noSuch(OverHill::late));
    }

    private static void promise14() {
        sentence("14", "whether there is one on a SIDE in a BEAT: 1, 0", () -> {
            OverHill x = told(holesAt(0, 0, 1, 7, 0, 199, 1, 199));
            for (int beat = 0; beat < 200; beat++) {
                due("hole(0, " + beat + ")", x.hole(0, beat), beat == 0 || beat == 199 ? 1 : 0);
                due("hole(1, " + beat + ")", x.hole(1, beat), beat == 7 || beat == 199 ? 1 : 0);
            }
            due("no ROUND", told(HEAD).hole(0, 0), 0);
        });
        sentence("14", "-2 likewise", () -> noSuch(OverHill::hole));
    }

    private static void promise15() {
        sentence("15", "The first BEAT from one on in which there is", () -> {
            OverHill x = told(holesAt(0, 0, 0, 7, 1, 5, 0, 199));
            due("BEAT 0 itself", x.next(0, 0), 0);
            due("from 1", x.next(0, 1), 7);
            due("BEAT 7 itself", x.next(0, 7), 7);
            due("from 8", x.next(0, 8), 199);
            due("BEAT 199 itself", x.next(0, 199), 199);
            due("SIDE 1", x.next(1, 0), 5);
        });
        sentence("15", "NONE: none", () -> {
            OverHill x = told(holesAt(0, 198, 1, 5));
            due("behind the last", x.next(0, 199), NONE);
            due("behind the only one", x.next(1, 6), NONE);
            due("on a SIDE without any", told(holesAt(0, 3)).next(1, 0), NONE);
            due("no ROUND", told(HEAD).next(0, 0), NONE);
        });
        sentence("15", "-2 likewise", () -> noSuch(OverHill::next));
    }

    private static void promise16() {
        sentence("16", "HOLES of a SIDE from a BEAT to another one (no earlier), both too", () -> {
            OverHill x = told(holesAt(0, 0, 0, 7, 0, 8, 1, 9, 0, 199));
            due("all", x.holes(0, 0, 199), 4);
            due("all", x.holes(1, 0, 199), 1);
            due("both too", x.holes(0, 0, 7), 2);
            due("both too", x.holes(0, 8, 199), 2);
            due("none of both", x.holes(0, 1, 6), 0);
            due("the same one", x.holes(0, 7, 7), 1);
            due("the same one", x.holes(0, 6, 6), 0);
            due("the last alone", x.holes(0, 199, 199), 1);
            due("the first alone", x.holes(0, 0, 0), 1);
            due("earlier", x.holes(0, 8, 7), -2);
            due("earlier", x.holes(0, 199, 0), -2);
            due("every BEAT", told(HEAD + "round 0 of 0 begins 0;round 1 of 0 begins 0;answers 0;").holes(1, 0, 199), 200);
        });
        sentence("16", "-2 likewise", () -> {
            noSuch((x, side, beat) -> x.holes(side, beat, 199));
            noSuch((x, side, beat) -> x.holes(side, 0, beat));
        });
    }

    private static void promise17() {
        sentence("17", "The most BEATS one behind the other there without a HOLE on either SIDE", () -> {
            OverHill x = told(holesAt(0, 0, 1, 5, 0, 199));
            due("6 .. 198", x.run(0, 199), 193);
            due("1 .. 4", x.run(0, 5), 4);
            due("1 .. 4", x.run(1, 4), 4);
            due("cut by to", x.run(0, 3), 3);
            due("cut by from", x.run(190, 199), 9);
            due("one", x.run(5, 6), 1);
            due("one", x.run(4, 5), 1);
            due("one", x.run(6, 6), 1);
            due("none in BEAT 0", x.run(0, 0), 0);
            due("none in BEAT 5, on SIDE 1", x.run(5, 5), 0);
            due("none in BEAT 199", x.run(199, 199), 0);
            due("all", told(CALM).run(0, 199), 200);
            due("no ROUND", told(HEAD).run(0, 199), 200);
            due("none at all", told(HEAD + "round 0 of 0 begins 0;round 1 of 0 begins 0;answers 0;").run(0, 199), 0);
        });
        sentence("17", "-2: there are none such, no DANCE", () -> {
            noSpan(OverHill::run);
        });
    }

    private interface OfSpan {
        int ask(OverHill x, int from, int to);
    }

    private static void noSpan(OfSpan call) {
        OverHill x = told(CALM);
        for (int beat : NO_BEATS) {
            due("to " + beat, call.ask(x, 0, beat), -2);
            due("from " + beat, call.ask(x, beat, 199), -2);
            due("both " + beat, call.ask(x, beat, beat), -2);
        }
        due("earlier", call.ask(x, 1, 0), -2);
        due("earlier", call.ask(x, 199, 198), -2);
        due("no DANCE", call.ask(new OverHill(), 0, 199), -2);
    }

    private static void promise18() {
        sentence("18", "The BEAT in which the first such begin", () -> {
            OverHill x = told(holesAt(0, 3, 1, 7));
            due("of all", x.begins(0, 199), 8);
            due("of 0 .. 2, 4 .. 6, 8 .. 10", x.begins(0, 10), 0);
            due("of 1 .. 2, 4 .. 6, 8 .. 10", x.begins(1, 10), 4);
            due("of 5 .. 6, 8 .. 9", x.begins(5, 9), 5);
            due("of 5 .. 6, 8 .. 10", x.begins(5, 10), 8);
            due("the last", x.begins(199, 199), 199);
            due("the first", x.begins(0, 0), 0);
            due("behind a HOLE", x.begins(3, 4), 4);
            due("ahead of a HOLE", x.begins(2, 3), 2);
        });
        sentence("18", "NONE: there are none", () -> {
            OverHill x = told(holesAt(0, 0, 1, 7, 0, 8, 0, 199));
            due("BEAT 0", x.begins(0, 0), NONE);
            due("BEATS 7, 8, a HOLE on a SIDE each", x.begins(7, 8), NONE);
            due("BEAT 199", x.begins(199, 199), NONE);
        });
        sentence("18", "-2 likewise", () -> noSpan(OverHill::begins));
    }

    private static void promise19() {
        sentence("19", "HOLES of both SIDES in all BEATS, less those that there were without a STUMBLE", () -> {
            OverHill x = told(holesAt(0, 0, 1, 7, 0, 199) + "stumble 1 at 9 does 5 lag 1;stumble 0 at 20 does 2 lag 0;mud 20;");
            due("in BEAT 0", x.undoes(0), 1);
            due("on SIDE 1", x.undoes(1), 1);
            due("in BEAT 199", x.undoes(2), 1);
            due("without a HOLE", x.undoes(3), 0);
            due("in MUD", x.undoes(4), 0);
            // by BEAT 1 each SIDE dances what the other one does: without it there is a HOLE on both in all
            OverHill mends = told(HEAD + "round 0 of 0 1 begins 0;round 1 of 1 0 begins 0;answers 0 0;answers 1 1;stumble 0 at 0 does 0 lag 1;");
            due("it mends", mends.undoes(0), 2 - 400);
            OverHill spoils = told(HEAD + "round 0 of 0 1 begins 0;round 1 of 0 1 begins 0;answers 0 0;answers 1 1;stumble 0 at 0 does 1 lag 1;");
            due("it spoils", spoils.undoes(0), 400);
        });
        sentence("19", "-1,000: there is none such", () -> {
            OverHill x = told(holesAt(0, 0, 1, 7));
            for (int k : new int[] {-1, 2, 7, 8, LEAST, MOST}) {
                due("undoes(" + k + ")", x.undoes(k), -1000);
            }
            due("without any", told(CALM).undoes(0), -1000);
            due("no DANCE", new OverHill().undoes(0), -1000);
        });
    }

    private static void promise20() {
        sentence("20", "STUMBLES without which (each alone) a HOLE would not be", () -> {
            // 3 may be met by all but 3: a HOLE by two STUMBLES, neither of which alone makes one
            OverHill both = told(HEAD + "round 0 of 0 begins 0;round 1 of 0 begins 0;answers 3 0 1 2 4 5;"
                + "stumble 0 at 5 does 3 lag 0;stumble 1 at 5 does 3 lag 0;stumble 0 at 9 does 3 lag 0;");
            due("two on SIDE 0", both.causes(0, 5), 2);
            due("two on SIDE 1", both.causes(1, 5), 2);
            // 0 may be met by 0 alone, 3 by none: without either one there is a HOLE by the other one
            OverHill either = told(HEAD + "round 0 of 0 begins 0;round 1 of 0 begins 0;answers 0 0;answers 3;"
                + "stumble 0 at 5 does 3 lag 0;stumble 1 at 5 does 3 lag 0;");
            due("none alone", either.causes(0, 5), 0);
            due("one", told(holesAt(0, 3, 0, 0, 1, 199)).causes(1, 199), 1);
            due("none: it is by the ROUNDS", told(HEAD + "round 0 of 0 begins 0;round 1 of 0 begins 0;answers 0;"
                + "stumble 0 at 3 does 1 lag 0;").causes(0, 9), 0);
            // eight lags of 1: in BEAT 199 SIDE 0 is in PLACE 191 modulo 12, the last, by all of them alone
            StringBuilder eight = new StringBuilder(HEAD + "round 0 of " + steps(11, "0") + "2 begins 0;round 1 of 1 begins 0;answers 2;");
            for (int beat = 0; beat < 8; beat++) {
                eight.append("stumble 0 at ").append(beat).append(" does 0 lag 1;");
            }
            due("eight", told(eight.toString()).causes(0, 199), 8);
        });
        sentence("20", "0: it is none", () -> {
            OverHill x = told(holesAt(0, 3));
            due("BEAT 0", x.causes(0, 0), 0);
            due("BEAT 199", x.causes(0, 199), 0);
            due("the other SIDE", x.causes(1, 3), 0);
            due("no ROUND", told(HEAD).causes(0, 0), 0);
        });
        sentence("20", "-2: there are none such", () -> noSuch(OverHill::causes));
    }
}
