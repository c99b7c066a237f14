/** Promises 21 to 28: ROUNDS as they go without STUMBLES and MUD, shifted and mended. */
final class RoundsEdges extends Edges {
    /** STEPS 0, 1, 2 may be met by themselves alone. */
    private static final String ALIKE = "answers 0 0;answers 1 1;answers 2 2;";
    private static final String ONE_ROUND = HEAD + "round 0 of 1 begins 0;";
    private static final String OTHER_ROUND = HEAD + "round 1 of 1 begins 0;";

    @Override
    void all() {
        promise21();
        promise22();
        promise23();
        promise24();
        promise25();
        promise26();
        promise27();
        promise28();
    }

    private static String rounds(int length, int begins, int other, int otherBegins) {
        return HEAD + "round 0 of " + steps(length, "0") + "begins " + begins + ";round 1 of " + steps(other, "1") + "begins " + otherBegins + ";";
    }

    private static void promise21() {
        sentence("21", "after how many BEATS both ROUNDS are in their first PLACES again, without STUMBLES and MUD", () -> {
            due("1 and 1", told(rounds(1, 0, 1, 0)).period(), 1);
            due("1 and 12", told(rounds(1, 0, 12, 5)).period(), 12);
            due("12 and 12", told(rounds(12, 11, 12, 0)).period(), 12);
            due("12 and 11", told(rounds(12, 0, 11, 10)).period(), 132);
            due("11 and 12", told(rounds(11, 0, 12, 11)).period(), 132);
            due("4 and 6", told(rounds(4, 3, 6, 0)).period(), 12);
            due("8 and 12", told(rounds(8, 0, 12, 0)).period(), 24);
            due("STUMBLES and MUD aside", told(rounds(4, 0, 6, 0) + "mud 0;mud 7;stumble 0 at 3 does 0 lag 1;").period(), 12);
        });
        sentence("21", "NONE: one of both is none", () -> {
            due("SIDE 1", told(ONE_ROUND).period(), NONE);
            due("SIDE 0", told(OTHER_ROUND).period(), NONE);
            due("both", told(HEAD).period(), NONE);
        });
        sentence("21", "-2: there is no DANCE", () -> due("period()", new OverHill().period(), -2));
    }

    private static void promise22() {
        sentence("22", "the first BEAT from one on, without STUMBLES and MUD (beyond the last, too), in which SIDE 0 is in a PLACE, SIDE 1 in another one",
            () -> {
                OverHill x = told(rounds(3, 0, 2, 1));
                due("BEAT 0 itself", x.meets(0, 1, 0), 0);
                due("the next such", x.meets(0, 1, 1), 6);
                due("BEAT 199 itself", x.meets(1, 0, 199), 199);
                due("beyond the last", x.meets(1, 0, 198), 199);
                due("beyond the last", x.meets(2, 1, 199), 200);
                due("beyond the last", x.meets(0, 1, 199), 204);
                // of 12 and 11 PLACES: BEAT 66 and 132 more are 198, and 132 more are 330
                OverHill y = told(rounds(12, 0, 11, 0));
                due("BEAT 198", y.meets(6, 0, 67), 198);
                due("far beyond the last", y.meets(6, 0, 199), 330);
                due("the last of a PERIOD", y.meets(11, 10, 0), 131);
                due("from its begin on", y.meets(0, 0, 1), 132);
                OverHill z = told(rounds(12, 11, 11, 10));
                due("begins", z.meets(11, 10, 0), 0);
                due("begins", z.meets(0, 0, 0), 1);
                due("STUMBLES and MUD aside", told(rounds(3, 0, 2, 1) + "mud 0;stumble 0 at 1 does 1 lag 2;").meets(1, 0, 0), 1);
            });
        sentence("22", "NONE: never", () -> {
            OverHill x = told(rounds(2, 0, 4, 1));
            due("even and even", x.meets(0, 0, 0), NONE);
            due("even and even", x.meets(0, 2, 199), NONE);
            due("even and odd", x.meets(0, 3, 0), 2);
            OverHill y = told(rounds(12, 0, 12, 0));
            due("like ones", y.meets(11, 11, 0), 11);
            due("unlike ones", y.meets(11, 10, 0), NONE);
        });
        sentence("22", "-2: there are none such", () -> {
            OverHill x = told(rounds(3, 0, 2, 1));
            for (int place : new int[] {-1, 3, 12, LEAST, MOST}) {
                due("PLACE " + place, x.meets(place, 0, 0), -2);
            }
            for (int place : new int[] {-1, 2, 12, LEAST, MOST}) {
                due("another PLACE " + place, x.meets(0, place, 0), -2);
            }
            for (int beat : NO_BEATS) {
                due("BEAT " + beat, x.meets(0, 0, beat), -2);
            }
            due("no ROUND of SIDE 1", told(ONE_ROUND).meets(0, 0, 0), -2);
            due("no ROUND of SIDE 0", told(OTHER_ROUND).meets(0, 0, 0), -2);
            due("no DANCE", new OverHill().meets(0, 0, 0), -2);
        });
    }

    private static void promise23() {
        sentence("23", "HOLES of both SIDES without STUMBLES and MUD in a PERIOD of BEATS from gap on", () -> {
            for (int gap = 0; gap <= 20; gap++) {
                String head = "dance gap " + gap + " odds 0 rain 0;";
                // in every BEAT one on both
                due("all of 3 BEATS, gap " + gap, told(head + "round 0 of 0 begins 0;round 1 of 0 0 0 begins 0;answers 0;").shifted(0), 6);
                // SIDE 0 alone, in two of three BEATS
                due("four of 6 BEATS, gap " + gap, told(head + "round 0 of 0 0 1 begins 2;round 1 of 2 3 begins 0;answers 0;").shifted(0), 4);
                due("all of 132 BEATS, gap " + gap,
                    told(head + "round 0 of " + steps(12, "0") + "begins 0;round 1 of " + steps(11, "0") + "begins 0;answers 0;").shifted(10), 264);
            }
            // 2 may not be met by 1. SIDE 0 dances 2 in BEATS 0, 3, .. and hears 1, if SIDE 1 danced it gap BEATS ago
            String two = "2 0 0 begins 0;";
            String one = "1 3 3 begins 0;";
            for (int gap = 0; gap <= 20; gap++) {
                String head = "dance gap " + gap + " odds 0 rain 0;answers 2 0 2 3 4 5;";
                for (int n = 0; n < 3; n++) {
                    OverHill here = told(head + "round 0 of " + two + "round 1 of " + one);
                    due("on SIDE 0, gap " + gap + ", " + n, here.shifted(n), n == gap % 3 ? 1 : 0);
                    OverHill there = told(head + "round 0 of " + one + "round 1 of " + two);
                    due("on SIDE 1, gap " + gap + ", " + n, there.shifted(n), (n + gap) % 3 == 0 ? 1 : 0);
                }
            }
            due("STUMBLES aside", told(CALM + "stumble 0 at 0 does 2 lag 0;").shifted(0), 0);
            due("MUD aside", told(HEAD + "round 0 of 0 begins 0;round 1 of 0 begins 0;answers 0;mud 0;").shifted(0), 2);
        });
        sentence("23", "if SIDE 1 began n (0 .. its length less 1) PLACES later", () -> {
            OverHill x = told(HEAD + "round 0 of 0 1 2 begins 0;round 1 of 0 1 2 begins 1;" + ALIKE);
            due("0", x.shifted(0), 6);
            due("1", x.shifted(1), 6);
            due("2: it begins with 0, as SIDE 0", x.shifted(2), 0);
            due("3 is none", x.shifted(3), -2);
            OverHill y = told(rounds(1, 0, 12, 11));
            due("11 of twelve", y.shifted(11), 0);
            due("12 of twelve", y.shifted(12), -2);
            OverHill z = told(rounds(12, 0, 1, 0));
            due("0 of one", z.shifted(0), 0);
            due("1 of one, of SIDE 0 there are twelve", z.shifted(1), -2);
        });
        sentence("23", "-2: there are none such (without both ROUNDS)", () -> {
            for (int n : new int[] {-1, 1, 12, LEAST, MOST}) {
                due("shifted(" + n + ")", told(CALM).shifted(n), -2);
            }
            due("SIDE 0 alone", told(ONE_ROUND).shifted(0), -2);
            due("SIDE 1 alone", told(OTHER_ROUND).shifted(0), -2);
            due("no DANCE", new OverHill().shifted(0), -2);
        });
    }

    private static void promise24() {
        sentence("24", "The least n by which there are none", () -> {
            due("0", told(CALM).shift(), 0);
            due("0 of 0 .. 11", told(rounds(1, 0, 12, 5)).shift(), 0);
            due("1 of 1 and 3", told(HEAD + "round 0 of 0 1 begins 0;round 1 of 0 1 0 1 begins 1;" + ALIKE).shift(), 1);
            due("2", told(HEAD + "round 0 of 0 1 2 begins 0;round 1 of 0 1 2 begins 1;" + ALIKE).shift(), 2);
            due("11", told(HEAD + "round 0 of 0 " + steps(11, "1") + "begins 0;round 1 of 0 " + steps(11, "1") + "begins 1;" + ALIKE).shift(), 11);
        });
        sentence("24", "NONE: by none", () -> {
            due("none may meet it", told(HEAD + "round 0 of 0 begins 0;round 1 of 1 1 1 begins 0;answers 0;").shift(), NONE);
            due("0 of one", told(HEAD + "round 0 of 0 begins 0;round 1 of 1 begins 0;answers 1;").shift(), NONE);
        });
        sentence("24", "-2: there is no DANCE, not both ROUNDS", () -> {
            due("SIDE 0 alone", told(ONE_ROUND).shift(), -2);
            due("SIDE 1 alone", told(OTHER_ROUND).shift(), -2);
            due("neither", told(HEAD).shift(), -2);
            due("no DANCE", new OverHill().shift(), -2);
        });
    }

    private static void promise25() {
        sentence("25", "The n by which they are fewest, the least of several", () -> {
            // gap 1: with begins and n 1 or 2 in all SIDE 0, SIDE 1 meets the other: 3; with 0 (3) neither: 6
            String three = "dance gap 1 odds 0 rain 0;round 0 of 0 1 2 begins 0;" + ALIKE + "round 1 of 0 1 2 begins ";
            due("of 3, 3, 6", told(three + "1;").least(), 0);
            due("of 6, 3, 3", told(three + "0;").least(), 1);
            due("of 3, 6, 3", told(three + "2;").least(), 0);
            due("all alike", told(HEAD + "round 0 of 0 begins 0;round 1 of 1 1 1 begins 2;answers 0;").least(), 0);
            due("none by one", told(HEAD + "round 0 of 0 1 begins 0;round 1 of 0 1 0 1 begins 1;" + ALIKE).least(), 1);
            due("11", told(HEAD + "round 0 of 0 " + steps(11, "1") + "begins 0;round 1 of 0 " + steps(11, "1") + "begins 1;" + ALIKE).least(), 11);
        });
        sentence("25", "-2 likewise", () -> {
            due("SIDE 0 alone", told(ONE_ROUND).least(), -2);
            due("SIDE 1 alone", told(OTHER_ROUND).least(), -2);
            due("neither", told(HEAD).least(), -2);
            due("no DANCE", new OverHill().least(), -2);
        });
    }

    /** SIDE 0 dances 2, which none may meet, in its PLACE 11 alone; SIDE 1 dances 1. */
    private static String lastOfTwelve(int gap) {
        return "dance gap " + gap + " odds 0 rain 0;round 0 of " + steps(11, "0") + "2 begins 0;round 1 of " + steps(12, "1") + "begins 0;answers 2;";
    }

    private static void promise26() {
        sentence("26", "the fewest STEPS of a SIDE's ROUND to be changed so that (without STUMBLES and MUD) there is no HOLE on either SIDE", () -> {
            due("none", told(CALM).mend(0), 0);
            due("none", told(CALM).mend(1), 0);
            due("STUMBLES aside", told(CALM + "stumble 0 at 3 does 2 lag 0;").mend(0), 0);
            due("one", told(lastOfTwelve(0)).mend(0), 1);
            due("all twelve", told(HEAD + "round 0 of " + steps(12, "2") + "begins 0;round 1 of 1 begins 0;answers 2;").mend(0), 12);
            due("all twelve of SIDE 1, MUD aside",
                told(HEAD + "mud 0;round 1 of " + steps(12, "2") + "begins 0;round 0 of 1 begins 0;answers 2;").mend(1), 12);
            // a HOLE on SIDE 1 alone: 1 may be met by 1; SIDE 0 mends it, too
            OverHill x = told(HEAD + "round 0 of 0 begins 0;round 1 of 1 begins 0;answers 1 1;");
            due("of the hearing one", x.mend(1), 1);
            due("of the heard one", x.mend(0), 1);
        });
        sentence("26", "NONE: it can't be", () -> {
            due("SIDE 0 dances what none may meet", told(lastOfTwelve(0)).mend(1), NONE);
            // 0 may be met by 0 alone, 1 by 1 alone: one PLACE of SIDE 0 hears both, and both hear it
            OverHill x = told(HEAD + "round 0 of 0 begins 0;round 1 of 0 1 begins 0;answers 0 0;answers 1 1;");
            due("both ask for another one", x.mend(0), NONE);
            due("SIDE 1 can", x.mend(1), 1);
            due("none may meet any", told(CALM + "answers 0;answers 1;answers 3;answers 4;answers 5;").mend(0), NONE);
        });
        sentence("26", "-2: there is no such SIDE, not both ROUNDS", () -> noRounds((x, side) -> x.mend(side)));
    }

    private interface OfSide {
        int ask(OverHill x, int side);
    }

    private static void noRounds(OfSide call) {
        for (int side : NO_SIDES) {
            due("SIDE " + side, call.ask(told(CALM), side), -2);
        }
        for (int side = 0; side < 2; side++) {
            due("SIDE 0 alone", call.ask(told(ONE_ROUND), side), -2);
            due("SIDE 1 alone", call.ask(told(OTHER_ROUND), side), -2);
            due("neither", call.ask(told(HEAD), side), -2);
            due("no DANCE", call.ask(new OverHill(), side), -2);
        }
    }

    private static void promise27() {
        sentence("27", "STEP i of the ROUND then: as it is, if it may be, else the least that may be", () -> {
            OverHill x = told(lastOfTwelve(0));
            for (int i = 0; i < 11; i++) {
                due("as it is: mended(0, " + i + ")", x.mended(0, i), 0);
            }
            due("the least", x.mended(0, 11), 0);
            // 1 may be met by 3 and 5 alone: against it SIDE 0 dances 3; 5 stays, 0 to 2 and 4 do not
            OverHill y = told(HEAD + "round 0 of 0 1 2 3 4 5 begins 0;round 1 of 1 begins 0;answers 1 3 5;");
            int[] mended = {3, 3, 3, 3, 3, 5};
            for (int i = 0; i < 6; i++) {
                due("mended(0, " + i + ")", y.mended(0, i), mended[i]);
            }
            due("four", y.mend(0), 4);
            // of STEPS 0 .. 4 none may be met: the least is the last STEP
            due("5", told(HEAD + "round 0 of 0 begins 0;round 1 of 5 begins 0;answers 0;answers 1;answers 2;answers 3;answers 4;").mended(0, 0), 5);
        });
        sentence("27", "NONE, -2 likewise, no such PLACE", () -> {
            OverHill x = told(lastOfTwelve(0));
            due("it can't be, of PLACE 0, too", x.mended(1, 0), NONE);
            due("it can't be", x.mended(1, 11), NONE);
            for (int i : new int[] {-1, 12, LEAST, MOST}) {
                due("PLACE " + i, x.mended(0, i), -2);
                due("PLACE " + i + ", though it can't be", x.mended(1, i), -2);
            }
            due("PLACE 1 of one", told(CALM).mended(0, 1), -2);
            noRounds((y, side) -> y.mended(side, 0));
        });
    }

    private static void promise28() {
        sentence("28", "The first PLACE of its ROUND for which there is no STEP", () -> {
            for (int gap = 0; gap <= 20; gap++) {
                // SIDE 0 dances 2 in BEAT 11 (and 12 more) and hears what SIDE 1 danced gap BEATS ago
                due("gap " + gap, told(lastOfTwelve(gap)).stuck(1), Math.floorMod(11 - gap, 12));
            }
            // 2 may meet none: who hears it, gap BEATS later, has no STEP
            String deaf = " 0 1 3 4 5;";
            String none = "answers 0" + deaf + "answers 1" + deaf + "answers 2" + deaf + "answers 3" + deaf + "answers 4" + deaf + "answers 5" + deaf;
            for (int gap = 0; gap <= 20; gap++) {
                String head = "dance gap " + gap + " odds 0 rain 0;" + none;
                String last = " of " + steps(11, "0") + "2 begins 0;";
                String all = " of " + steps(12, "1") + "begins 0;";
                due("of SIDE 1, who hears, gap " + gap, told(head + "round 0" + last + "round 1" + all).stuck(1), (11 + gap) % 12);
                due("of SIDE 0, who hears, gap " + gap, told(head + "round 1" + last + "round 0" + all).stuck(0), (11 + gap) % 12);
            }
            due("the first", told(HEAD + "round 0 of 2 0 2 begins 1;round 1 of 1 1 1 begins 0;answers 2;").stuck(1), 1);
            due("all", told(HEAD + "round 0 of 2 begins 0;round 1 of " + steps(12, "1") + "begins 7;answers 2;").stuck(1), 0);
        });
        sentence("28", "NONE: there is none", () -> {
            due("it can be mended", told(lastOfTwelve(0)).stuck(0), NONE);
            due("there is no HOLE", told(CALM).stuck(1), NONE);
        });
        sentence("28", "-2 likewise", () -> noRounds((x, side) -> x.stuck(side)));
    }
}
