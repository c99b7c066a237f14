/** V, and promises 42 to 49: TUNES that begin together, STEPS that may meet, and the game. */
final class TuneEdges extends Edges {
    /** 29 times 28, 27, 25 and 23: no two have a divisor. */
    private static final int FAR = 12606300;
    private static final String FAR_TUNES = HEAD + "tune 29 at 28;tune 28 at 27;tune 27 at 26;tune 25 at 24;tune 23 at 22;";
    private static final String NONE_MEETS = HEAD + "answers 0;answers 1;answers 2;answers 3;answers 4;answers 5;";

    @Override
    void all() {
        promise42();
        promise43();
        promise44();
        promise45();
        promise46();
        promise47();
        theGame();
        promise48();
        promise49();
    }

    private static void promise42() {
        sentence("42", "the first BEAT from one on in which all of a set (bits) begin", () -> {
            OverHill x = told(HEAD + "tune 4 at 1;tune 6 at 3;tune 5 at 0;tune 1 at 0;");
            due("one", x.together(1, 0), 1);
            due("that BEAT itself", x.together(1, 1), 1);
            due("the next", x.together(1, 2), 5);
            due("two", x.together(3, 0), 9);
            due("that BEAT itself", x.together(3, 9), 9);
            due("the next", x.together(3, 10), 21);
            due("three", x.together(7, 0), 45);
            due("beyond BEAT 199", x.together(7, 199), 225);
            due("in every BEAT", x.together(8, 199), 199);
            due("the second alone", x.together(2, 199), 201);
            due("all five", told(FAR_TUNES).together(31, 0), FAR - 1);
            due("all five, from the last BEAT", told(FAR_TUNES).together(31, 199), FAR - 1);
            OverHill nought = told(HEAD + "tune 29 at 0;tune 28 at 0;tune 27 at 0;tune 25 at 0;tune 23 at 0;");
            due("in BEAT 0", nought.together(31, 0), 0);
            due("behind BEAT 0", nought.together(31, 1), FAR);
        });
        sentence("42", "NONE: never", () -> {
            OverHill x = told(HEAD + "tune 4 at 1;tune 6 at 3;tune 2 at 0;");
            due("odd and even", x.together(5, 0), NONE);
            due("odd and even", x.together(6, 199), NONE);
            due("all", x.together(7, 0), NONE);
            due("but two of them", x.together(3, 0), 9);
            due("like ones, one later", told(HEAD + "tune 30 at 29;tune 30 at 28;").together(3, 0), NONE);
            due("by 5 alone they are apart", told(HEAD + "tune 30 at 6;tune 25 at 5;").together(3, 0), NONE);
        });
        sentence("42", "-2: there is no such set (0 is one: of none), BEAT, no DANCE", () -> {
            OverHill x = told(HEAD + "tune 4 at 1;tune 6 at 3;");
            for (int beat : new int[] {0, 7, 199}) {
                due("of none", x.together(0, beat), beat);
                due("of none, without TUNES", told(HEAD).together(0, beat), beat);
            }
            for (int set : new int[] {4, 5, 7, 8, 31, 32, -1, LEAST, MOST}) {
                due("set " + set, x.together(set, 0), -2);
            }
            due("without TUNES", told(HEAD).together(1, 0), -2);
            due("all five", told(FAR_TUNES).together(31, 0) > 0 ? 1 : 0, 1);
            due("32 of five", told(FAR_TUNES).together(32, 0), -2);
            for (int beat : NO_BEATS) {
                due("BEAT " + beat, x.together(1, beat), -2);
                due("BEAT " + beat + " of none", x.together(0, beat), -2);
            }
            due("no DANCE", new OverHill().together(0, 0), -2);
        });
    }

    private static void promise43() {
        sentence("43", "After how many BEATS they begin together again (whether they ever do or not)", () -> {
            OverHill x = told(HEAD + "tune 4 at 1;tune 6 at 3;tune 2 at 0;tune 1 at 0;tune 30 at 0;");
            due("4 and 6", x.again(3), 12);
            due("4 and 2, which never do", x.again(5), 4);
            due("all, which never do", x.again(31), 60);
            due("one", x.again(2), 6);
            due("every BEAT", x.again(8), 1);
            due("30", x.again(16), 30);
            due("none of them", x.again(0), 1);
            due("all five", told(FAR_TUNES).again(31), FAR);
        });
        sentence("43", "-2 likewise", () -> {
            OverHill x = told(HEAD + "tune 4 at 1;tune 6 at 3;");
            for (int set : new int[] {4, 8, 32, -1, LEAST, MOST}) {
                due("set " + set, x.again(set), -2);
            }
            due("of none, without TUNES", told(HEAD).again(0), 1);
            due("without TUNES", told(HEAD).again(1), -2);
            due("no DANCE", new OverHill().again(0), -2);
        });
    }

    private static void promise44() {
        sentence("44", "The most TUNES that ever begin together", () -> {
            due("without TUNES", told(HEAD).most(), 0);
            due("one", told(HEAD + "tune 30 at 29;").most(), 1);
            due("one of five", told(HEAD + "tune 5 at 0;tune 5 at 1;tune 5 at 2;tune 5 at 3;tune 5 at 4;").most(), 1);
            due("two", told(HEAD + "tune 2 at 0;tune 2 at 1;tune 4 at 3;").most(), 2);
            due("all five", told(FAR_TUNES).most(), 5);
            due("four of five", told(HEAD + "tune 2 at 0;tune 2 at 1;tune 4 at 3;tune 3 at 2;tune 1 at 0;").most(), 4);
        });
        sentence("44", "-2: there is no DANCE", () -> due("most()", new OverHill().most(), -2));
    }

    private static void promise45() {
        sentence("45", "Which, as bits: the least set of so many", () -> {
            due("without TUNES", told(HEAD).chorus(), 0);
            due("the first of one each", told(HEAD + "tune 2 at 0;tune 2 at 1;").chorus(), 1);
            due("6 of 6 and 9", told(HEAD + "tune 2 at 0;tune 2 at 1;tune 4 at 3;tune 4 at 2;").chorus(), 6);
            due("three are more than the least two", told(HEAD + "tune 2 at 0;tune 4 at 0;tune 2 at 1;tune 4 at 1;tune 8 at 5;").chorus(), 28);
            due("all five", told(FAR_TUNES).chorus(), 31);
            due("the last four", told(HEAD + "tune 2 at 0;tune 2 at 1;tune 4 at 3;tune 3 at 2;tune 1 at 0;").chorus(), 30);
        });
        sentence("45", "-2 likewise", () -> due("chorus()", new OverHill().chorus(), -2));
    }

    private static void promise46() {
        sentence("46", "pairs of STEPS, one on SIDE 0, one on SIDE 1, each of which may meet the other", () -> {
            due("all", told(HEAD).treaties(), 36);
            due("none", told(NONE_MEETS).treaties(), 0);
            due("a STEP and itself: one", told(NONE_MEETS + "answers 3 3;").treaties(), 1);
            due("two STEPS: either on SIDE 0", told(NONE_MEETS + "answers 0 5;answers 5 0;").treaties(), 2);
            due("one way alone", told(NONE_MEETS + "answers 0 5;answers 5 1;answers 1 0;").treaties(), 0);
            due("a STEP that none may meet", told(HEAD + "answers 2;").treaties(), 25);
            due("whether danced or not", told(CALM).treaties(), 25);
        });
        sentence("46", "-2 likewise", () -> due("treaties()", new OverHill().treaties(), -2));
    }

    private static void promise47() {
        sentence("47", "the STEP of a SIDE that most STEPS may meet, the least of several (what 0), of which the fewest may (what 1)", () -> {
            due("all alike: most", told(HEAD).leads(0), 0);
            due("all alike: fewest", told(HEAD).leads(1), 0);
            due("none of all: most", told(NONE_MEETS).leads(0), 0);
            due("none of all: fewest", told(NONE_MEETS).leads(1), 0);
            OverHill x = told(HEAD + "answers 0 1;answers 1 0 2;answers 2 1 3;answers 3;answers 4;answers 5 0;");
            due("1 of 1 and 2", x.leads(0), 1);
            due("3 of 3 and 4, which none may meet", x.leads(1), 3);
            due("the last: most", told(NONE_MEETS + "answers 5 2;").leads(0), 5);
            due("the last: fewest", told(HEAD + "answers 5 0 1 2 3 4;").leads(1), 5);
            // 1 may meet five of them, but none may meet it
            due("that they meet, not that meets them", told(NONE_MEETS + "answers 0 1;answers 2 1;answers 3 1;answers 4 1;answers 5 0 1;").leads(0), 5);
        });
        sentence("47", "-2: there are none such, no DANCE", () -> {
            for (int what : NO_WHATS) {
                due("leads(" + what + ")", told(HEAD).leads(what), -2);
            }
            due("no DANCE", new OverHill().leads(0), -2);
            due("no DANCE", new OverHill().leads(1), -2);
        });
    }

    private static void theGame() {
        sentence("V", "By turns one dances a STEP that may meet the latest one and was danced once at most so far (the first STEP, told, counts once)", () -> {
            // 0 may be met by itself alone: told, danced once more, and then no more
            due("once more", told(NONE_MEETS + "answers 0 0;").game(0), 1);
            // 0, told, then 1, 0, 1, and 0 was danced twice
            due("by turns", told(NONE_MEETS + "answers 0 1;answers 1 0;").game(0), 1);
            // a way of three: 1, 2, and none may meet 2
            OverHill way = told(NONE_MEETS + "answers 0 1;answers 1 2;");
            due("0, 1, 2", way.game(0), 0);
            due("1, 2", way.game(1), 1);
            due("2", way.game(2), 0);
            // who dances 1 behind 0 loses by 1 (once more), who dances 2 wins
            due("another way", told(NONE_MEETS + "answers 0 1 2;answers 1 1;").plays(0), 2);
            // round 0 .. 5: eleven more can be danced, the last one by who began
            OverHill ring = told(HEAD + "answers 0 1;answers 1 2;answers 2 3;answers 3 4;answers 4 5;answers 5 0;");
            for (int step = 0; step < 6; step++) {
                due("round from " + step, ring.game(step), 1);
                due("round from " + step, ring.plays(step), (step + 1) % 6);
            }
            // behind 0: 1, and the other one ends it by 2; behind 1: 0, 1, and he ends it by 2 himself
            OverHill fork = told(NONE_MEETS + "answers 0 1;answers 1 0 2;");
            due("a fork", fork.game(0), 0);
            due("a fork", fork.plays(1), 0);
        });
        sentence("V", "who can't has lost", () -> {
            for (int step = 0; step < 6; step++) {
                due("game(" + step + ")", told(NONE_MEETS).game(step), 0);
                due("plays(" + step + ")", told(NONE_MEETS).plays(step), NONE);
            }
        });
        sentence("V", "(So it ends.)", () -> {
            OverHill all = told(HEAD);
            for (int step = 0; step < 6; step++) {
                due("eleven more: game(" + step + ")", all.game(step), 1);
                due("eleven more: plays(" + step + ")", all.plays(step), 0);
            }
        });
    }

    private static void promise48() {
        sentence("48", "whether who is to dance next, behind a STEP told, wins: 1, 0", () -> {
            OverHill x = told(NONE_MEETS + "answers 0 1;answers 2 0;answers 3 3;answers 5 0 2;");
            // 0: 1 wins. 1: none. 2: 0, then 1: lost. 3: 3 wins. 4: none. 5: by 2 the other loses.
            int[] wins = {1, 0, 0, 1, 0, 1};
            for (int step = 0; step < 6; step++) {
                due("game(" + step + ")", x.game(step), wins[step]);
            }
        });
        sentence("48", "-2: there is no such STEP, no DANCE", () -> {
            for (int step : NO_STEPS) {
                due("game(" + step + ")", told(HEAD).game(step), -2);
            }
            due("no DANCE", new OverHill().game(0), -2);
        });
    }

    private static void promise49() {
        sentence("49", "The STEP he dances so, the least of several", () -> {
            // behind 5 he loses by 0 (once more) and by 1, and wins by 2 and by 4
            OverHill x = told(NONE_MEETS + "answers 5 4 2 1 0;answers 0 0;answers 1 1;");
            due("2 of 2 and 4", x.plays(5), 2);
            due("itself", x.plays(0), 0);
            due("0 of all", told(HEAD).plays(5), 0);
            due("the last", told(NONE_MEETS + "answers 0 5;").plays(0), 5);
        });
        sentence("49", "NONE: he loses", () -> {
            due("he can't", told(NONE_MEETS).plays(3), NONE);
            due("he can, and loses", told(NONE_MEETS + "answers 0 1;answers 1 2;").plays(0), NONE);
        });
        sentence("49", "-2 likewise", () -> {
            for (int step : NO_STEPS) {
                due("plays(" + step + ")", told(HEAD).plays(step), -2);
                due("plays(" + step + ")", told(NONE_MEETS).plays(step), -2);
            }
            due("no DANCE", new OverHill().plays(0), -2);
        });
    }
}
