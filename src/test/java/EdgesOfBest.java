/** Boundary cases of promises 19 to 24: order, loan, swap, skip, most, kind. */
final class EdgesOfBest {
    private static final String FIVE = "plain 9;proud 6;wise 17;careless 20;plain 4;";
    /** As it is 0 and 1 DRAW, then 0 LOSES; the other way round 0 LOSES, TRAINS, and then 1 LOSES. */
    private static final String BETTER_TURNED = "plain 5;plain 5;plain 9;game 0 1;game 0 2;";
    private static final String TEN_A_YEAR = "plain 5;plain 5;plain 1;" + "game0 1;".repeat(10);

    private EdgesOfBest() {
    }

    static void all() {
        order();
        orderState();
        loan();
        swap();
        skip();
        most();
        kind();
        onlyAsked();
    }

    private static void row(LoseLeague x, int owed, int... places) {
        Check.due("order(0)", x.order(0), owed);
        for (int i = 0; i < 5; i++) {
            Check.due("order(" + (10 + i) + ")", x.order(10 + i), i < places.length ? places[i] : -4);
        }
    }

    private static LoseLeague allOwing(String text, int owes) {
        LoseLeague x = Check.told(text);
        for (int t = 0; t < x.rule(0); t++) {
            x.alter(t, 3, owes);
        }
        return x;
    }

    private static void order() {
        Edge.of(19, "OWED (what 0); 10 and i: which of them is to be at place i", "what at both ends", () -> {
            LoseLeague x = Check.told(FIVE + "game0 1;".repeat(5));
            Edge.taken("order(#)", x::order, 0, 10, 11, 12, 13, 14);
            Edge.bad("order(#)", x::order, -1, 1, 2, 4, 5, 8, 9, 15, 16, 20, 100, -10, Edge.MIN, Edge.MIN + 10, Edge.MAX);
        });
        Edge.of(19, "BAD (also i above 4)", "also if there are so many FIXTURES", () -> {
            LoseLeague x = Check.told(FIVE + "game0 1;".repeat(10));
            Edge.bad("order(#)", x::order, 15, 16, 19, 20);
        });
        Edge.of(19, "(NONE: not so many; without FIXTURES OWED as it is, and NONE)", "not so many", () -> {
            row(Check.told("plain 5;plain 3;game 0 1;"), 1, 0);
            row(Check.told(BETTER_TURNED), 1, 1, 0);
            row(Check.told("plain 5;plain 5;game0 1;game0 1;game0 1;game0 1;"), 2, 0, 1, 2, 3);
            row(Check.told("plain 5;plain 5;game0 1;game0 1;game0 1;game0 1;game0 1;"), 2, 0, 1, 2, 3, 4);
        });
        Edge.of(19, "(NONE: not so many; without FIXTURES OWED as it is, and NONE)", "without FIXTURES, in whichever WEEK", () -> {
            row(new LoseLeague(), 0);
            LoseLeague x = allOwing(FIVE, 99);
            row(x, 495);
            x.weeks(7);
            row(x, 495);
        });
        Edge.of(19, "of several the first by its row (as numbers)", "all are as good", () -> {
            row(Check.told("plain 5;plain 5;game0 1;game1 0;"), 2, 0, 1);
            row(Check.told("plain 5;plain 5;game0 1;game1 0;game0 1;game1 0;game0 1;"), 2, 0, 1, 2, 3, 4);
        });
        Edge.of(19, "of several the first by its row (as numbers)", "the last of all rows", () -> {
            row(Check.told("wise 2;plain 3;wise 0;careless 7;game3 0;game0 1;game0 2;game1 2;game2 3;"), 0, 4, 3, 2, 1, 0);
            row(Check.told("plain 11;plain 10;wise 9;plain 11;careless 10;game1 3;game1 2;game0 2;game2 4;game4 3;"), 1, 4, 3, 2, 1, 0);
        });
        Edge.of(19, "by which OWED is least behind a YEAR", "OWES is 99 already: no row is better", () -> {
            row(allOwing("plain 5;plain 5;plain 9;plain 1;plain 1;game 0 1;game 0 2;", 99), 495, 0, 1);
            row(allOwing(FIVE + "game0 1;game1 2;game2 3;game3 4;game4 0;", 99), 495, 0, 1, 2, 3, 4);
        });
        Edge.of(19, "(as many WEEKS as there are FIXTURES, from WEEK 0 of it on)", "one YEAR, not more, not less", () -> {
            LoseLeague x = Check.told("plain 5;plain 5;game 0 1;game 0 1;game 0 1;");
            row(x, 2, 0, 1, 2);
            x.weeks(3);
            row(x, 4, 0, 1, 2);
        });
    }

    private static void orderState() {
        String sentence = "STATE: there are more than 5 FIXTURES, or WEEK leaves another number than 0 by FIXTURES.";
        Edge.of(19, sentence, "five, six, ten", () -> {
            Check.due("five", Check.told(FIVE + "game0 1;".repeat(5)).order(0) < 0 ? 0 : 1, 1);
            LoseLeague six = Check.told(FIVE + "game0 1;".repeat(6));
            Check.due("six", six.order(0), -2);
            Check.due("six", six.order(10), -2);
            Check.due("six", six.order(14), -2);
            six.weeks(6);
            Check.due("six, the next YEAR", six.order(0), -2);
            six.strike(5);
            six.weeks(4);
            Check.due("five again, WEEK 10", six.order(0) < 0 ? 0 : 1, 1);
            Check.due("ten", Check.told(FIVE + "game0 1;".repeat(10)).order(0), -2);
        });
        Edge.of(19, sentence, "WEEK from one YEAR to the next", () -> {
            LoseLeague x = Check.told(FIVE + "game0 1;".repeat(5));
            for (int week = 0; week <= 11; week++) {
                Check.due("WEEK " + week, x.order(0) == -2 ? 1 : 0, week % 5 == 0 ? 0 : 1);
                Check.due("WEEK " + week, x.order(14) == -2 ? 1 : 0, week % 5 == 0 ? 0 : 1);
                x.weeks(1);
            }
        });
        Edge.of(19, sentence, "one FIXTURE: never", () -> {
            LoseLeague x = Check.told("plain 5;plain 5;game 0 1;");
            for (int week = 0; week < 4; week++) {
                Check.due("WEEK " + week, x.order(0), 2 * week + 2);
                x.weeks(1);
            }
        });
        Edge.of(19, "BAD (also i above 4); STATE", "BAD comes first", () -> {
            LoseLeague x = Check.told(FIVE + "game0 1;".repeat(6));
            Edge.bad("order(#)", x::order, 1, 9, 15, -1);
        });
        Edge.of(Edge.TERMS, "STATE -2 (as told), FULL -3, NONE -4 (there is none), the first that fits", "order: STATE comes ahead of NONE", () -> {
            LoseLeague x = Check.told(BETTER_TURNED);
            x.weeks(1);
            Check.due("order(12)", x.order(12), -2);
            x.weeks(1);
            Check.due("order(12)", x.order(12), -4);
        });
    }

    private static void best(String call, int choice, int owed, int gotChoice, int gotOwed) {
        Check.due(call + ", 0", gotChoice, choice);
        Check.due(call + ", 1", gotOwed, owed);
    }

    private static void loans(LoseLeague x, int n, int choice, int owed) {
        best("loan(" + n, choice, owed, x.loan(n, 0), x.loan(n, 1));
    }

    /** Lends, looks and goes back, for each two TOWNS. */
    private static void loansByLending(String text, int n) {
        LoseLeague x = Check.told(text);
        x.keep(0);
        int least = x.runs(n, 2);
        int choice = -4;
        for (int a = 0; a < x.rule(0); a++) {
            for (int b = 0; b < x.rule(0); b++) {
                if (x.lend(a, b, 1) >= 0 && x.runs(n, 2) < least) {
                    least = x.runs(n, 2);
                    choice = 10 * a + b;
                }
                x.back(0);
            }
        }
        loans(x, n, choice, choice < 0 ? -4 : least);
    }

    private static void loan() {
        Edge.of(20, "so that OWED is least behind n WEEKS (0 to 60)", "n at both ends", () -> {
            LoseLeague x = Check.told("plain 5;plain 5;game 0 1;");
            Edge.bad("loan(#, 0)", n -> x.loan(n, 0), -1, 61, Edge.MIN, Edge.MAX);
            Edge.bad("loan(#, 1)", n -> x.loan(n, 1), -1, 61, Edge.MIN, Edge.MAX);
            loans(x, 0, -4, -4);
            loans(x, 1, 1, 1);
            loans(x, 60, 1, 119);
        });
        Edge.of(20, "so that OWED is least behind n WEEKS (0 to 60)", "the last WEEK of a YEAR, not the one ahead of it", () -> {
            LoseLeague x = Check.told("plain 5;plain 5;" + "game0 1;".repeat(10));
            loans(x, 9, -4, -4);
            loans(x, 10, 1, 1);
            loans(x, 59, 1, 9);
            loans(x, 60, 1, 11);
        });
        Edge.of(20, "of several the least (what 0), OWED (1). BAD; NONE: by none.", "what at both ends", () -> {
            LoseLeague x = Check.told("plain 5;plain 5;game 0 1;");
            Edge.bad("loan(1, #)", what -> x.loan(1, what), -1, 2, Edge.MIN, Edge.MAX);
        });
        Edge.of(20, "of several the least (what 0)", "the least and the greatest that may be", () -> {
            loans(Check.told("plain 5;plain 5;game 0 1;"), 1, 1, 1);
            LoseLeague x = Check.told("plain 0;plain 0;plain 0;proud 0;plain 4;game 3 4;");
            x.alter(3, 2, 1);
            // 4 lends to 3, and LOSES to it 3 by 4; by another loan it is a DRAW at the most
            loans(x, 1, 43, 3);
        });
        Edge.of(20, "less than as it is", "as much is not less", () -> {
            loans(Check.told("plain 5;plain 3;game 0 1;"), 1, -4, -4);
            loans(allOwing("plain 5;plain 5;game 0 1;", 99), 1, -4, -4);
            loans(allOwing("plain 5;plain 5;game 0 1;", 98), 1, 1, 197);
            loans(allOwing("plain 5;plain 5;game 0 1;", 98), 2, -4, -4);
        });
        Edge.of(20, "Who had better lend 1 (as by lend()) to whom now so that OWED is least behind n WEEKS", "as lend() and runs() tell it", () -> {
            loansByLending("plain 5;plain 5;plain 5;game 0 1;game 1 2;", 4);
            loansByLending("wise 12;proud 3;plain 6;careless 9;game 0 1;game 2 3;game 1 2;", 9);
            loansByLending(FIVE + "game 0 1;game 2 3;game 4 0;game 1 2;", 8);
            loansByLending("proud 20;plain 20;wise 20;game 0 1;game 1 2;", 6);
        });
        Edge.of(20, "10 times who lends and to whom, of several the least (what 0)", "who lends comes first", () -> {
            // whatever 1 or 4 lends or is lent ends the DRAW: 10 is the least, 0 having nothing to lend
            loans(Check.told("plain 0;plain 5;plain 0;plain 9;plain 5;game 4 1;"), 1, 10, 4);
            loans(Check.told("plain 0;proud 0;plain 0;plain 3;game 3 1;"), 1, 30, 3);
        });
        Edge.of(20, "Who had better lend 1 (as by lend())", "one that has 0 can not, one that has 1 can", () -> {
            loans(Check.told("plain 0;plain 0;game 0 1;"), 1, -4, -4);
            loans(Check.told("plain 1;plain 1;game 0 1;"), 1, 1, 1);
            loans(Check.told("proud 0;plain 3;game 0 1;"), 1, 10, 1);
            loans(Check.told("proud 1;plain 4;game 0 1;"), 1, 1, 1);
        });
        Edge.of(20, "Who had better lend 1 (as by lend())", "one that has 20 can not be lent to, one that has 19 can", () -> {
            loans(Check.told("plain 20;plain 20;game 0 1;"), 1, -4, -4);
            loans(Check.told("plain 19;plain 19;game 0 1;"), 1, 1, 1);
            loans(Check.told("plain 20;proud 17;game 0 1;"), 1, 1, 1);
            loans(Check.told("proud 17;plain 20;game 0 1;"), 1, 10, 1);
        });
        Edge.of(20, "BAD; NONE: by none.", "nothing there; BAD comes first", () -> {
            LoseLeague x = new LoseLeague();
            loans(x, 60, -4, -4);
            loans(Check.told("plain 5;"), 60, -4, -4);
            loans(Check.told("plain 5;plain 5;"), 60, -4, -4);
            Check.due("loan(61, 0)", x.loan(61, 0), -1);
            Check.due("loan(0, 2)", x.loan(0, 2), -1);
        });
    }

    private static void swaps(LoseLeague x, int n, int choice, int owed) {
        best("swap(" + n, choice, owed, x.swap(n, 0), x.swap(n, 1));
    }

    private static void swap() {
        Edge.of(21, "so that OWED is least behind n WEEKS (0 to 60)", "n at both ends, the last WEEK of a YEAR", () -> {
            LoseLeague x = Check.told(BETTER_TURNED);
            Edge.bad("swap(#, 0)", n -> x.swap(n, 0), -1, 61, Edge.MIN, Edge.MAX);
            Edge.bad("swap(#, 1)", n -> x.swap(n, 1), -1, 61, Edge.MIN, Edge.MAX);
            swaps(x, 0, -4, -4);
            swaps(x, 1, -4, -4);
            swaps(x, 2, 1, 1);
            swaps(x, 3, 1, 1);
        });
        Edge.of(21, "so that OWED is least behind n WEEKS (0 to 60)", "59, 60: the last WEEK of the thirtieth YEAR", () -> {
            LoseLeague x = Check.told(BETTER_TURNED);
            LoseLeague turned = Check.told("plain 5;plain 5;plain 9;game 0 2;game 0 1;");
            Edge.passWeeks(turned, 59);
            Check.due("turned, 59 are as good as they are", turned.rule(5), x.runs(59, 2));
            swaps(x, 59, -4, -4);
            turned.weeks(1);
            Check.due("turned, 60 are better", turned.rule(5), 49);
            swaps(x, 60, 1, 49);
        });
        Edge.of(21, "of several the least (what 0), OWED (1). BAD; NONE: by none.", "what at both ends", () -> {
            LoseLeague x = Check.told(BETTER_TURNED);
            Edge.bad("swap(2, #)", what -> x.swap(2, what), -1, 2, Edge.MIN, Edge.MAX);
        });
        Edge.of(21, "10 times the lesser and the greater, of several the least (what 0)", "the least and the greatest that may be", () -> {
            swaps(Check.told(BETTER_TURNED), 2, 1, 1);
            LoseLeague x = Check.told("plain 5;plain 5;plain 9;plain 1;plain 1;" + "game3 4;".repeat(8) + "game0 1;game0 2;");
            // the first eight are over; one of them in place of 8 or 9 helps nobody
            x.weeks(8);
            swaps(x, 2, 89, 3);
        });
        Edge.of(21, "Two FIXTURES that are to change places", "both TOWNS of each, whichever stands first", () -> {
            for (String first : new String[] {"game 0 1;", "game 1 0;"}) {
                for (String second : new String[] {"game 0 2;", "game 2 0;"}) {
                    swaps(Check.told("plain 5;plain 5;plain 9;" + first + second), 2, 1, 1);
                    swaps(Check.told("plain 5;plain 5;plain 9;" + second + first), 2, -4, -4);
                }
            }
            // 3 and 4 DRAW; to change 0 and 2 is as good as 1 and 2, and less
            swaps(Check.told("plain 5;plain 5;plain 9;plain 1;plain 1;game 3 4;game 1 0;game 0 2;"), 3, 2, 3);
        });
        Edge.of(21, "less than as it is", "as much is not less", () -> {
            swaps(Check.told("plain 5;plain 5;plain 9;game 0 2;game 0 1;"), 2, -4, -4);
            swaps(allOwing(BETTER_TURNED, 99), 2, -4, -4);
            swaps(allOwing(BETTER_TURNED, 98), 2, 1, 295);
        });
        Edge.of(21, "BAD; NONE: by none.", "no two FIXTURES; BAD comes first", () -> {
            LoseLeague x = new LoseLeague();
            swaps(x, 60, -4, -4);
            swaps(Check.told("plain 5;plain 4;game 0 1;"), 60, -4, -4);
            Check.due("swap(61, 0)", x.swap(61, 0), -1);
            Check.due("swap(0, 2)", x.swap(0, 2), -1);
        });
    }

    private static void skips(LoseLeague x, int n, int choice, int owed) {
        best("skip(" + n, choice, owed, x.skip(n, 0), x.skip(n, 1));
    }

    private static void skip() {
        String text = "plain 6;plain 5;plain 1;game 0 2;game 0 1;game 1 2;";
        Edge.of(22, "so that OWED is least behind n WEEKS (0 to 60)", "n at both ends, the last WEEK of a YEAR", () -> {
            LoseLeague x = Check.told(text);
            Edge.bad("skip(#, 0)", n -> x.skip(n, 0), -1, 61, Edge.MIN, Edge.MAX);
            Edge.bad("skip(#, 1)", n -> x.skip(n, 1), -1, 61, Edge.MIN, Edge.MAX);
            skips(x, 0, -4, -4);
            skips(x, 2, -4, -4);
            skips(x, 3, 0, 1);
        });
        Edge.of(22, "so that OWED is least behind n WEEKS (0 to 60)", "59, 60: the last WEEK of the sixth YEAR", () -> {
            // without the last GAME 0 and 1 each LOSE every YEAR, so that 2 alone OWES
            LoseLeague x = Check.told("plain 4;plain 1;plain 4;" + "game0 1;".repeat(9) + "game1 2;");
            skips(x, 59, 9, 5);
            skips(x, 60, 9, 6);
        });
        Edge.of(22, "of several the first (what 0), OWED (1). BAD; NONE: none.", "what at both ends", () -> {
            LoseLeague x = Check.told(text);
            Edge.bad("skip(3, #)", what -> x.skip(3, what), -1, 2, Edge.MIN, Edge.MAX);
        });
        Edge.of(22, "of several the first (what 0)", "the first and the last that may be", () -> {
            skips(Check.told("plain 6;plain 5;plain 1;game 0 2;game 0 2;game 1 2;game 0 1;"), 4, 0, 1);
            // without the last GAME 0 and 1 go on beating each other by turns; with it they DRAW
            skips(Check.told("plain 4;plain 1;plain 4;" + "game0 1;".repeat(9) + "game1 2;"), 20, 9, 2);
        });
        Edge.of(22, "(nothing is played in its WEEKS)", "in all of them; the YEAR is over all the same", () -> {
            // the only FIXTURE: rained off, both OWE every WEEK, which is never less than as it is
            skips(Check.told("plain 5;plain 5;game 0 1;"), 60, -4, -4);
            skips(Check.told("plain 5;plain 3;game 0 1;"), 60, -4, -4);
        });
        Edge.of(22, "less than as it is", "as much is not less", () -> {
            skips(Check.told("plain 5;plain 5;game 0 1;game 0 1;"), 2, -4, -4);
            skips(allOwing(text, 99), 3, -4, -4);
            skips(allOwing(text, 98), 3, 0, 295);
        });
        Edge.of(22, "BAD; NONE: none.", "no FIXTURES; BAD comes first", () -> {
            LoseLeague x = new LoseLeague();
            skips(x, 60, -4, -4);
            skips(Check.told("plain 5;plain 4;"), 60, -4, -4);
            Check.due("skip(61, 0)", x.skip(61, 0), -1);
            Check.due("skip(0, 2)", x.skip(0, 2), -1);
        });
    }

    private static void most() {
        String sentence = "The greatest STRENGTH (0 to 20) of a TOWN by which it LOSES in any of n WEEKS (0 to 60). BAD; NONE: by none.";
        Edge.of(23, sentence, "no such TOWN", () -> {
            LoseLeague x = Check.told(FIVE + "game 0 4;");
            Edge.taken("most(#, 1)", t -> x.most(t, 1), 0, 1, 2, 3, 4);
            Edge.bad("most(#, 1)", t -> x.most(t, 1), -1, 5, -4, Edge.MIN, Edge.MAX);
            LoseLeague two = Check.told("plain 5;plain 5;");
            Edge.bad("of two: most(#, 0)", t -> two.most(t, 0), -1, 2, 4);
            Check.due("of none", new LoseLeague().most(0, 0), -1);
        });
        Edge.of(23, sentence, "n at both ends", () -> {
            LoseLeague x = Check.told("plain 5;plain 3;game 0 1;");
            Edge.bad("most(0, #)", n -> x.most(0, n), -1, 61, Edge.MIN, Edge.MAX);
            Check.due("most(0, 0)", x.most(0, 0), -4);
            Check.due("most(0, 1)", x.most(0, 1), 2);
            // they play once in ten WEEKS; town 0 PLAYS 3 less by each GAME that it does not lose
            LoseLeague slow = Check.told("plain 20;proud 0;plain 1;plain 1;" + "game2 3;".repeat(9) + "game0 1;");
            Check.due("most(0, 59)", slow.most(0, 59), 14);
            Check.due("most(0, 60)", slow.most(0, 60), 17);
        });
        Edge.of(23, "The greatest STRENGTH (0 to 20) of a TOWN", "0, 20, none", () -> {
            Check.due("0 by 1", Check.told("plain 5;plain 1;game 0 1;").most(0, 1), 0);
            Check.due("0 by 0", Check.told("plain 5;plain 0;game 0 1;").most(0, 1), -4);
            Check.due("20 by 21", Check.told("plain 5;proud 18;game 0 1;").most(0, 1), 20);
            Check.due("19 by 20", Check.told("plain 5;plain 20;game 0 1;").most(0, 1), 19);
            Check.due("20 by 23", Check.told("plain 5;proud 20;game 0 1;").most(0, 1), 20);
            Check.due("who never plays", Check.told("plain 5;plain 4;plain 0;game 0 1;").most(2, 60), -4);
            Check.due("no FIXTURES", Check.told("plain 5;plain 4;").most(0, 60), -4);
        });
        Edge.of(23, "in any of n WEEKS", "the first one, the last one", () -> {
            LoseLeague x = Check.told("plain 5;plain 9;plain 1;plain 1;game 0 1;game 2 3;");
            Check.due("the first: most(0, 2)", x.most(0, 2), 8);
            x = Check.told("plain 5;plain 9;plain 1;plain 1;game 2 3;game 0 1;");
            Check.due("ahead of the last: most(0, 1)", x.most(0, 1), -4);
            Check.due("the last: most(0, 2)", x.most(0, 2), 8);
        });
        Edge.of(23, "BAD; NONE: by none.", "BAD comes first", () -> {
            LoseLeague x = Check.told("plain 5;plain 4;");
            Check.due("most(0, 61)", x.most(0, 61), -1);
            Check.due("most(0, -1)", x.most(0, -1), -1);
        });
    }

    private static void kinds(LoseLeague x, int t, int n, int choice, int owed) {
        best("kind(" + t + ", " + n, choice, owed, x.kind(t, n, 0), x.kind(t, n, 1));
    }

    private static void kind() {
        String sentence = "The KIND of a TOWN by which OWED is least behind n WEEKS (0 to 60), of several the first (what 0), OWED (1). BAD.";
        Edge.of(24, sentence, "no such TOWN", () -> {
            LoseLeague x = Check.told(FIVE + "game 0 4;");
            Edge.taken("kind(#, 1, 0)", t -> x.kind(t, 1, 0), 0, 4);
            Edge.bad("kind(#, 1, 0)", t -> x.kind(t, 1, 0), -1, 5, Edge.MIN, Edge.MAX);
            LoseLeague two = Check.told("plain 5;plain 5;");
            Edge.bad("of two: kind(#, 0, 0)", t -> two.kind(t, 0, 0), -1, 2, 4);
            Check.due("of none", new LoseLeague().kind(0, 0, 0), -1);
        });
        Edge.of(24, sentence, "n at both ends", () -> {
            LoseLeague x = Check.told(TEN_A_YEAR);
            Edge.bad("kind(0, #, 0)", n -> x.kind(0, n, 0), -1, 61, Edge.MIN, Edge.MAX);
            kinds(x, 0, 0, 0, 0);
            kinds(x, 0, 9, 0, 0);
            // by a wise one 0 and 1 LOSE every YEAR, so that 2, which never plays, alone OWES
            kinds(x, 0, 59, 2, 5);
            kinds(x, 0, 60, 2, 6);
            Check.due("each KIND played out", leastByKind(60), 6);
        });
        Edge.of(24, sentence, "what at both ends", () -> {
            LoseLeague x = Check.told("plain 5;plain 5;game 0 1;");
            Edge.taken("kind(0, 1, #)", what -> x.kind(0, 1, what), 0, 1);
            Edge.bad("kind(0, 1, #)", what -> x.kind(0, 1, what), -1, 2, Edge.MIN, Edge.MAX);
        });
        Edge.of(24, "of several the first (what 0)", "all are as good, whichever it is", () -> {
            for (int k = 0; k < 4; k++) {
                LoseLeague x = Check.told("plain 5;plain 5;");
                x.alter(0, 0, k);
                kinds(x, 0, 60, 0, 0);
            }
            kinds(allOwing("careless 5;plain 5;plain 1;plain 1;plain 1;game 0 1;", 99), 0, 60, 0, 495);
        });
        Edge.of(24, "of several the first (what 0)", "the first KIND, the last KIND", () -> {
            // town 1 has LOST already: 0 had better LOSE, and PLAYS 8, 11, 4, 2 by 3
            LoseLeague x = Check.told("plain 8;plain 3;game 0 1;");
            x.alter(1, 2, 1);
            kinds(x, 0, 1, 3, 0);
            // 3, 6, 1, 0 by 5, and 0 has LOST already
            x = Check.told("proud 3;plain 5;game 0 1;");
            x.alter(0, 2, 1);
            kinds(x, 0, 1, 1, 0);
            x = Check.told("careless 6;plain 5;game 0 1;");
            x.alter(0, 2, 1);
            kinds(x, 0, 1, 0, 0);
        });
        Edge.of(24, "by which OWED is least", "it need not be less than as it is", () -> {
            kinds(Check.told("plain 5;plain 8;game 0 1;"), 0, 1, 0, 1);
            kinds(Check.told("plain 5;"), 0, 60, 0, 0);
        });
    }

    /** Each KIND is played out by itself. */
    private static int leastByKind(int n) {
        int least = Integer.MAX_VALUE;
        for (int k = 0; k < 4; k++) {
            LoseLeague x = Check.told(TEN_A_YEAR);
            x.alter(0, 0, k);
            Edge.passWeeks(x, n);
            least = Math.min(least, x.rule(5));
        }
        return least;
    }

    private static void onlyAsked() {
        Edge.of(19, "The order of FIXTURES by which OWED is least", "nothing is changed", () -> stays(x -> x.order(0)));
        Edge.of(20, "Who had better lend 1", "nothing is changed", () -> stays(x -> x.loan(60, 0)));
        Edge.of(21, "Two FIXTURES that are to change places", "nothing is changed", () -> stays(x -> x.swap(60, 0)));
        Edge.of(22, "The FIXTURE that had better be rained off", "nothing is changed", () -> stays(x -> x.skip(60, 0)));
        Edge.of(23, "The greatest STRENGTH (0 to 20) of a TOWN", "nothing is changed", () -> stays(x -> x.most(0, 60)));
        Edge.of(24, "The KIND of a TOWN by which OWED is least", "nothing is changed", () -> stays(x -> x.kind(0, 60, 0)));
    }

    private static void stays(java.util.function.ToIntFunction<LoseLeague> call) {
        LoseLeague x = Check.told(FIVE + "game 0 1;game 2 3;game 1 2;game 3 0;game 0 2;");
        x.weeks(5);
        String before = Check.state(x);
        Check.due("it is answered", call.applyAsInt(x) == -1 || call.applyAsInt(x) == -2 ? 0 : 1, 1);
        Check.same("behind it", Check.state(x), before);
    }
}
