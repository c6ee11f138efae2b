/** Boundary cases of promises 15 to 18: runs, ahead, loser, loses; and of BY WEEKS. */
final class EdgesOfWeeks {
    /** 5 by 4, 4 by 5 and so on: one LOSES each WEEK, town 1 in the even ones. */
    private static final String SEESAW = "plain 5;plain 4;game 0 1;";
    private static final String LAST = "plain 20;proud 0;plain 1;plain 1;";

    private EdgesOfWeeks() {
    }

    static void all() {
        byWeeks();
        runs();
        ahead();
        loser();
        loses();
    }

    /** Town 0 is beaten by town 1 in their 7th GAME; they play once a YEAR of ten, the others always DRAW. */
    private static LoseLeague slowYear(int placeOfGame) {
        return Check.told(LAST + "game2 3;".repeat(placeOfGame) + "game0 1;" + "game2 3;".repeat(9 - placeOfGame));
    }

    private static void byWeeks() {
        Edge.of(Edge.TERMS, "BY WEEKS: as it would be from now on", "from now on: not from WEEK 0", () -> {
            LoseLeague x = Check.told("plain 1;plain 9;plain 2;plain 9;game 0 1;game 2 3;");
            Check.due("in WEEK 0: loser(0)", x.loser(0), 0);
            x.weeks(1);
            Check.due("in WEEK 1: loser(0)", x.loser(0), 2);
            Check.due("in WEEK 1: loses(0)", x.loses(0), 1);
            Check.due("in WEEK 1: runs(1, 2)", x.runs(1, 2), 2);
            Check.due("in WEEK 1: ahead(2, 1, 0)", x.ahead(2, 1, 0), 3);
        });
        Edge.of(Edge.TERMS, "BY WEEKS: as it would be from now on", "WEEK may be 1000 then", () -> {
            LoseLeague x = Check.told("plain 5;plain 4;game 0 1;game 0 1;game 0 1;");
            Edge.passWeeks(x, 999);
            // WEEK 999 is the first of its YEAR; town 1 has won the GAME ahead of it
            Check.due("runs(60, 0)", x.runs(60, 0), 60);
            Check.due("loser(60)", x.loser(60) < 0 ? 0 : 1, 1);
            Check.due("ahead(0, 60, 0)", x.ahead(0, 60, 0) - x.town(0, 1), 0);
            Check.due("loses(0) and loses(1)", x.loses(0) + x.loses(1), 1);
            Check.due("most(0, 60)", x.most(0, 60), 20);
            Check.due("mean(0, 8, 1)", x.mean(0, 8, 1), 1);
            Check.due("order(10)", x.order(10), 0);
        });
        Edge.of(Edge.TERMS, "BY WEEKS: as it would be from now on", "as it would be: nothing is changed", () -> {
            LoseLeague x = Check.told(SEESAW);
            x.weeks(3);
            String before = Check.state(x);
            x.runs(60, 0);
            x.ahead(1, 60, 2);
            x.loser(60);
            x.loses(0);
            Check.same("behind them", Check.state(x), before);
        });
        Edge.of(Edge.TERMS, "BY WEEKS: as it would be from now on", "with the bounds of A GAME and A WEEK", () -> {
            LoseLeague x = Check.told("proud 19;proud 20;plain 2;proud 0;game 0 1;game 2 3;game 2 3;");
            x.alter(0, 2, 99);
            x.alter(1, 3, 99);
            Check.due("20 at most", x.ahead(0, 1, 0), 20);
            Check.due("LOSSES 99 at most", x.ahead(0, 1, 1), 99);
            Check.due("0 at least", x.ahead(3, 2, 0), 0);
            Check.due("OWES 99 at most", x.ahead(1, 3, 2), 99);
        });
    }

    private static void runs() {
        String sentence = "BY WEEKS, n of them (0 to 60): how many GAMES are lost in them (what 0), how many are a DRAW (1), OWED then (2), who has LOSSES then (3; bits). BAD.";
        Edge.of(15, sentence, "n at both ends", () -> {
            LoseLeague x = Check.told(SEESAW);
            for (int w = 0; w <= 3; w++) {
                int what = w;
                Edge.bad("runs(#, " + what + ")", n -> x.runs(n, what), -1, 61, Edge.MIN, Edge.MAX);
                Edge.taken("runs(#, " + what + ")", n -> x.runs(n, what), 0, 1, 59, 60);
            }
        });
        Edge.of(15, sentence, "what at both ends", () -> {
            LoseLeague x = Check.told(SEESAW);
            Edge.taken("runs(1, #)", what -> x.runs(1, what), 0, 1, 2, 3);
            Edge.bad("runs(1, #)", what -> x.runs(1, what), -1, 4, Edge.MIN, Edge.MAX);
        });
        Edge.of(15, "how many GAMES are lost in them (what 0)", "of no WEEKS, of 60", () -> {
            LoseLeague x = Check.told(SEESAW);
            for (int n : new int[] {0, 1, 59, 60}) {
                Check.due("runs(" + n + ", 0)", x.runs(n, 0), n);
                Check.due("runs(" + n + ", 1)", x.runs(n, 1), 0);
            }
            Check.due("no FIXTURES", Check.told("plain 5;plain 4;").runs(60, 0), 0);
        });
        Edge.of(15, "how many are a DRAW (1)", "of no WEEKS, of 60", () -> {
            LoseLeague x = Check.told("plain 5;plain 5;game 0 1;");
            for (int n : new int[] {0, 1, 59, 60}) {
                Check.due("runs(" + n + ", 1)", x.runs(n, 1), n);
                Check.due("runs(" + n + ", 0)", x.runs(n, 0), 0);
            }
        });
        Edge.of(15, "how many are a DRAW (1)", "no FIXTURES: no GAME, so no DRAW", () -> {
            Check.due("runs(60, 1)", Check.told("plain 5;plain 5;").runs(60, 1), 0);
            Check.due("no TOWNS", new LoseLeague().runs(60, 1), 0);
        });
        Edge.of(15, "OWED then (2)", "of no WEEKS as it is, the last WEEK of a YEAR, of 60", () -> {
            LoseLeague x = Check.told("plain 5;plain 5;" + "game0 1;".repeat(10));
            x.alter(0, 3, 7);
            Check.due("runs(0, 2)", x.runs(0, 2), 7);
            Check.due("runs(9, 2)", x.runs(9, 2), 7);
            Check.due("runs(10, 2)", x.runs(10, 2), 9);
            Check.due("runs(59, 2)", x.runs(59, 2), 17);
            Check.due("runs(60, 2)", x.runs(60, 2), 19);
        });
        Edge.of(15, "who has LOSSES then (3; bits)", "of no WEEKS as it is; none behind a YEAR; all", () -> {
            LoseLeague x = Check.told("plain 1;plain 9;plain 5;plain 5;plain 5;game 0 1;game 2 3;");
            x.alter(4, 2, 99);
            Check.due("runs(0, 3)", x.runs(0, 3), 16);
            Check.due("runs(1, 3)", x.runs(1, 3), 17);
            Check.due("runs(2, 3)", x.runs(2, 3), 0);
            for (int t = 1; t < 5; t++) {
                x.alter(t, 2, 1);
            }
            Check.due("all", x.runs(1, 3), 31);
        });
    }

    private static void ahead() {
        String sentence = "BY WEEKS, n of them (0 to 60): STRENGTH of a TOWN then (what 0), LOSSES (1), what it OWES (2). BAD.";
        Edge.of(16, sentence, "no such TOWN", () -> {
            LoseLeague x = Check.told("plain 5;plain 4;plain 1;plain 1;plain 1;game 0 1;");
            Edge.taken("ahead(#, 1, 0)", t -> x.ahead(t, 1, 0), 0, 4);
            Edge.bad("ahead(#, 1, 0)", t -> x.ahead(t, 1, 0), -1, 5, Edge.MIN, Edge.MAX);
            LoseLeague two = Check.told(SEESAW);
            Edge.bad("of two: ahead(#, 0, 0)", t -> two.ahead(t, 0, 0), -1, 2, 4);
            Check.due("of none: ahead(0, 0, 0)", new LoseLeague().ahead(0, 0, 0), -1);
        });
        Edge.of(16, sentence, "n at both ends", () -> {
            LoseLeague x = Check.told(SEESAW);
            Edge.taken("ahead(0, #, 0)", n -> x.ahead(0, n, 0), 0, 1, 59, 60);
            Edge.bad("ahead(0, #, 0)", n -> x.ahead(0, n, 0), -1, 61, Edge.MIN, Edge.MAX);
        });
        Edge.of(16, sentence, "what at both ends", () -> {
            LoseLeague x = Check.told(SEESAW);
            Edge.taken("ahead(0, 1, #)", what -> x.ahead(0, 1, what), 0, 1, 2);
            Edge.bad("ahead(0, 1, #)", what -> x.ahead(0, 1, what), -1, 3, Edge.MIN, Edge.MAX);
        });
        Edge.of(16, "STRENGTH of a TOWN then (what 0)", "of no WEEKS as it is, of 60", () -> {
            LoseLeague x = Check.told(SEESAW);
            for (int n : new int[] {0, 1, 2, 59, 60}) {
                Check.due("ahead(0, " + n + ", 0)", x.ahead(0, n, 0), n % 2 == 0 ? 5 : 4);
                Check.due("ahead(1, " + n + ", 0)", x.ahead(1, n, 0), n % 2 == 0 ? 4 : 5);
            }
        });
        Edge.of(16, "LOSSES (1)", "of no WEEKS as it is, the last WEEK of a YEAR, of 60", () -> {
            LoseLeague x = Check.told("plain 5;plain 4;plain 3;plain 3;" + "game0 1;".repeat(9) + "game2 3;");
            x.alter(0, 2, 3);
            Check.due("ahead(0, 0, 1)", x.ahead(0, 0, 1), 3);
            Check.due("ahead(1, 9, 1)", x.ahead(1, 9, 1), 5);
            Check.due("ahead(1, 10, 1)", x.ahead(1, 10, 1), 0);
            Check.due("ahead(1, 59, 1)", x.ahead(1, 59, 1), 4);
            Check.due("ahead(1, 60, 1)", x.ahead(1, 60, 1), 0);
        });
        Edge.of(16, "what it OWES (2)", "of no WEEKS as it is, the last WEEK of a YEAR, of 60", () -> {
            LoseLeague x = Check.told("plain 5;plain 5;" + "game0 1;".repeat(10));
            x.alter(1, 3, 7);
            Check.due("ahead(1, 0, 2)", x.ahead(1, 0, 2), 7);
            Check.due("ahead(1, 9, 2)", x.ahead(1, 9, 2), 7);
            Check.due("ahead(1, 10, 2)", x.ahead(1, 10, 2), 8);
            Check.due("ahead(1, 59, 2)", x.ahead(1, 59, 2), 12);
            Check.due("ahead(1, 60, 2)", x.ahead(1, 60, 2), 13);
        });
    }

    private static void loser() {
        String sentence = "BY WEEKS: who LOSES in WEEK n (0 to 60). BAD; NONE: nobody.";
        Edge.of(17, sentence, "n at both ends", () -> {
            LoseLeague x = Check.told(SEESAW);
            for (int n : new int[] {0, 1, 2, 59, 60}) {
                Check.due("loser(" + n + ")", x.loser(n), n % 2 == 0 ? 1 : 0);
            }
            Edge.bad("loser(#)", x::loser, -1, 61, Edge.MIN, Edge.MAX);
        });
        Edge.of(17, "NONE: nobody", "a DRAW, no FIXTURES, no TOWNS", () -> {
            Check.due("a DRAW", Check.told("plain 5;plain 5;game 0 1;").loser(60), -4);
            Check.due("no FIXTURES", Check.told("plain 5;plain 4;").loser(0), -4);
            Check.due("no TOWNS", new LoseLeague().loser(60), -4);
        });
        Edge.of(17, sentence, "BAD comes ahead of NONE", () -> {
            Check.due("loser(61)", new LoseLeague().loser(61), -1);
            Check.due("loser(-1)", new LoseLeague().loser(-1), -1);
        });
        Edge.of(Edge.TERMS, "WEEK n is the one behind n more (0: this one)", "this one, the last of a YEAR", () -> {
            LoseLeague x = slowYear(9);
            Check.due("loser(8)", x.loser(8), -4);
            Check.due("loser(9)", x.loser(9), 1);
            Check.due("loser(10)", x.loser(10), -4);
            x.weeks(9);
            Check.due("WEEK 9: loser(0)", x.loser(0), 1);
            Check.due("WEEK 9: loses(1)", x.loses(1), 0);
        });
    }

    private static void loses() {
        String sentence = "BY WEEKS: the first WEEK (0 to 60) in which a TOWN LOSES. BAD; NONE: in none.";
        Edge.of(18, sentence, "no such TOWN", () -> {
            LoseLeague x = Check.told("plain 5;plain 4;plain 1;plain 1;plain 1;game 0 4;");
            Edge.taken("loses(#)", x::loses, 0, 1, 2, 3, 4);
            Check.due("loses(4)", x.loses(4), 0);
            Edge.bad("loses(#)", x::loses, -1, 5, -4, Edge.MIN, Edge.MAX);
            LoseLeague two = Check.told("plain 5;plain 5;game 0 1;");
            Edge.bad("of two, nobody LOSES: loses(#)", two::loses, -4, -1, 2, 9);
            Check.due("of none", new LoseLeague().loses(0), -1);
        });
        Edge.of(18, "the first WEEK (0 to 60) in which a TOWN LOSES", "0, 60, 61", () -> {
            Check.due("this one", Check.told(SEESAW).loses(1), 0);
            Check.due("the next one", Check.told(SEESAW).loses(0), 1);
            Check.due("60", slowYear(0).loses(0), 60);
            Check.due("61", slowYear(1).loses(0), -4);
            LoseLeague x = slowYear(1);
            x.weeks(1);
            Check.due("61, a WEEK later", x.loses(0), 60);
        });
        Edge.of(18, "NONE: in none.", "a DRAW, who never plays, no FIXTURES", () -> {
            Check.due("a DRAW", Check.told("plain 5;plain 5;game 0 1;").loses(0), -4);
            Check.due("who never plays", Check.told("plain 5;plain 4;plain 0;game 0 1;").loses(2), -4);
            Check.due("no FIXTURES", Check.told("plain 5;plain 4;").loses(1), -4);
        });
    }
}
