/** Boundary cases of promises 10 to 14: alter, lend, book, strike, weeks; and of A GAME, A WEEK. */
final class EdgesOfChanges {
    private static final String FIVE = "plain 9;proud 6;wise 17;careless 20;plain 4;";

    private EdgesOfChanges() {
    }

    static void all() {
        alter();
        lend();
        book();
        strike();
        weeks();
        aGame();
        aWeek();
    }

    private static void alter() {
        int[] most = {3, 20, 99, 99};
        String[] names = {"KIND", "STRENGTH", "LOSSES", "what it OWES"};
        for (int w = 0; w <= 3; w++) {
            int what = w;
            Edge.of(10, "KIND, STRENGTH, LOSSES, what it OWES (what 0 to 3) of a TOWN becomes v", names[what] + " at both ends", () -> {
                LoseLeague x = Check.told(FIVE);
                x.alter(4, what, 0);
                Check.due("to its most", x.alter(4, what, most[what]), 0);
                Check.due("it is", x.town(4, what), most[what]);
                Edge.bad("alter(4, " + what + ", #)", v -> x.alter(4, what, v), -1, most[what] + 1, Edge.MIN, Edge.MAX);
                Check.due("it stays", x.town(4, what), most[what]);
                Check.due("to 0", x.alter(4, what, 0), most[what]);
                Check.due("it is", x.town(4, what), 0);
                Edge.bad("alter(4, " + what + ", #)", v -> x.alter(4, what, v), -1, most[what] + 1);
                Check.due("it stays", x.town(4, what), 0);
            });
        }
        Edge.of(10, "(what 0 to 3)", "what at both ends", () -> {
            LoseLeague x = Check.told(FIVE);
            Edge.taken("alter(0, #, 0)", what -> x.alter(0, what, 0), 0, 1, 2, 3);
            Edge.bad("alter(0, #, 0)", what -> x.alter(0, what, 0), -1, 4, Edge.MIN, Edge.MAX);
        });
        Edge.of(10, "of a TOWN becomes v: what it was. BAD.", "no such TOWN", () -> {
            LoseLeague x = Check.told(FIVE);
            Edge.taken("alter(#, 3, 1)", t -> x.alter(t, 3, 1), 0, 4);
            Edge.bad("alter(#, 3, 1)", t -> x.alter(t, 3, 1), -1, 5, Edge.MIN, Edge.MAX);
            LoseLeague two = Check.told("plain 1;plain 1;");
            Edge.bad("of two: alter(#, 1, 1)", t -> two.alter(t, 1, 1), 2, 3, 4);
            Check.due("of none", new LoseLeague().alter(0, 0, 0), -1);
        });
        Edge.of(10, "what it was", "the same again", () -> {
            LoseLeague x = Check.told(FIVE);
            Check.due("alter(3, 1, 20)", x.alter(3, 1, 20), 20);
            Check.due("alter(3, 1, 0)", x.alter(3, 1, 0), 20);
            Check.due("alter(3, 1, 0)", x.alter(3, 1, 0), 0);
        });
        Edge.of(10, "of a TOWN becomes v", "that TOWN alone, that number alone", () -> {
            for (int t = 0; t < 5; t++) {
                for (int what = 0; what <= 3; what++) {
                    LoseLeague x = Check.told(FIVE);
                    LoseLeague y = Check.told(FIVE);
                    x.alter(t, what, 1);
                    for (int other = 0; other < 20; other++) {
                        if (other != t * 4 + what) {
                            Check.due("behind alter(" + t + ", " + what + ", 1): " + other,
                                x.town(other / 4, other % 4), y.town(other / 4, other % 4));
                        }
                    }
                }
            }
        });
    }

    private static LoseLeague pair(int first, int second) {
        return Check.told("plain " + first + ";plain " + second + ";");
    }

    private static void lent(int first, int second, int n, int want) {
        LoseLeague x = pair(first, second);
        Check.due(first + " lends " + n + " to " + second, x.lend(0, 1, n), want);
        Check.due("the one has then", x.town(0, 1), want < 0 ? first : first - n);
        Check.due("the other has then", x.town(1, 1), want < 0 ? second : second + n);
        LoseLeague y = pair(second, first);
        Check.due(first + " lends " + n + " to " + second + ", the other way round", y.lend(1, 0, n), want);
    }

    private static void lend() {
        Edge.of(11, "A TOWN lends n (0 to 20) of its STRENGTH to another one", "n at both ends", () -> {
            lent(20, 0, 0, 20);
            lent(20, 0, 20, 0);
            lent(20, 0, 21, -1);
            lent(20, 0, -1, -1);
            lent(20, 0, Edge.MAX, -1);
            lent(20, 0, Edge.MIN, -1);
        });
        Edge.of(11, "what it has left", "all but one, all", () -> {
            lent(7, 3, 6, 1);
            lent(7, 3, 7, 0);
            lent(0, 0, 0, 0);
        });
        Edge.of(11, "STATE: it has not so much", "one more than it has", () -> {
            lent(7, 3, 8, -2);
            lent(0, 3, 1, -2);
            lent(19, 0, 20, -2);
        });
        Edge.of(11, "FULL: the other one would have more than 20", "20, 21", () -> {
            lent(7, 14, 6, 1);
            lent(7, 14, 7, -3);
            lent(20, 20, 0, 20);
            lent(20, 20, 1, -3);
            lent(20, 1, 19, 1);
            lent(20, 1, 20, -3);
        });
        Edge.of(11, "BAD (also alike); STATE: it has not so much; FULL", "STATE comes ahead of FULL", () -> {
            lent(7, 14, 8, -2);
            lent(0, 20, 1, -2);
            lent(0, 20, 20, -2);
        });
        Edge.of(11, "BAD (also alike); STATE: it has not so much; FULL", "BAD comes ahead of both", () -> {
            lent(0, 20, 21, -1);
            LoseLeague x = pair(0, 20);
            Check.due("alike, it has not so much", x.lend(0, 0, 1), -1);
            Check.due("alike, it would have more than 20", x.lend(1, 1, 1), -1);
            Check.due("no such TOWN, it has not so much", x.lend(0, 2, 1), -1);
        });
        Edge.of(11, "BAD (also alike)", "alike, also by 0", () -> {
            LoseLeague x = Check.told(FIVE);
            Edge.bad("lend(#, #, 0)", t -> x.lend(t, t, 0), 0, 1, 2, 3, 4);
        });
        Edge.of(11, "BAD (also alike)", "no such TOWN, either of them", () -> {
            LoseLeague x = Check.told(FIVE);
            Edge.taken("lend(#, 1, 0)", t -> x.lend(t, 1, 0), 0, 4);
            Edge.taken("lend(1, #, 0)", t -> x.lend(1, t, 0), 0, 4);
            Edge.bad("lend(#, 1, 0)", t -> x.lend(t, 1, 0), -1, 5, Edge.MIN, Edge.MAX);
            Edge.bad("lend(1, #, 0)", t -> x.lend(1, t, 0), -1, 5, Edge.MIN, Edge.MAX);
            LoseLeague two = pair(1, 1);
            Edge.bad("of two: lend(0, #, 0)", t -> two.lend(0, t, 0), 2, 3, 4);
            Edge.bad("of two: lend(#, 0, 0)", t -> two.lend(t, 0, 0), 2, 3, 4);
        });
    }

    private static void book() {
        Edge.of(12, "A FIXTURE more: how many there are. BAD (also alike); FULL.", "the first, the tenth, the eleventh", () -> {
            LoseLeague x = Check.told(FIVE);
            for (int n = 1; n <= 10; n++) {
                Check.due("the " + n + ".", x.book(4, n % 4), n);
                Check.due("its first", x.fixture(n - 1, 0), 4);
                Check.due("its second", x.fixture(n - 1, 1), n % 4);
            }
            Check.due("the 11th", x.book(0, 1), -3);
            Check.due("again", x.book(0, 1), -3);
            Check.due("they are", x.rule(1), 10);
            x.strike(9);
            Check.due("one less, one more", x.book(0, 1), 10);
        });
        Edge.of(12, "BAD (also alike); FULL.", "BAD comes first", () -> {
            LoseLeague x = Check.told(FIVE + "game0 1;".repeat(10));
            Check.due("alike", x.book(1, 1), -1);
            Check.due("no such TOWN", x.book(5, 1), -1);
            Check.due("no such TOWN", x.book(1, -1), -1);
            Check.due("two that there are", x.book(1, 4), -3);
        });
        Edge.of(12, "BAD (also alike)", "alike, each", () -> {
            LoseLeague x = Check.told(FIVE);
            Edge.bad("book(#, #)", t -> x.book(t, t), 0, 1, 2, 3, 4);
        });
        Edge.of(12, "BAD (also alike)", "no such TOWN, either of them", () -> {
            LoseLeague x = Check.told(FIVE);
            Edge.taken("book(#, 1)", t -> x.book(t, 1), 0, 4);
            Edge.taken("book(1, #)", t -> x.book(1, t), 0, 4);
            Edge.bad("book(#, 1)", t -> x.book(t, 1), -1, 5, Edge.MIN, Edge.MAX);
            Edge.bad("book(1, #)", t -> x.book(1, t), -1, 5, Edge.MIN, Edge.MAX);
            LoseLeague two = pair(1, 1);
            Edge.bad("of two: book(0, #)", t -> two.book(0, t), 2, 3, 4);
            Edge.bad("of two: book(#, 0)", t -> two.book(t, 0), 2, 3, 4);
        });
    }

    private static void strike() {
        Edge.of(13, "BAD (n above that, too)", "nothing there, all there", () -> {
            LoseLeague none = Check.told(FIVE);
            Check.due("strike(0)", none.strike(0), 0);
            Edge.bad("of none: strike(#)", none::strike, -1, 1, Edge.MIN, Edge.MAX);
            LoseLeague ten = Check.told(FIVE + "game0 1;".repeat(10));
            Edge.bad("of ten: strike(#)", ten::strike, -1, 11, Edge.MIN, Edge.MAX);
            Check.due("strike(10)", ten.strike(10), 10);
            Check.due("they are", ten.rule(1), 10);
        });
        Edge.of(13, "BAD (n above that, too)", "above what there are, not above what there may be", () -> {
            LoseLeague x = Check.told(FIVE + "game 0 1;game 1 2;game 2 3;");
            Edge.bad("strike(#)", x::strike, 4, 10);
            Check.due("strike(3)", x.strike(3), 3);
            Check.due("strike(2)", x.strike(2), 3);
            Edge.bad("strike(#)", x::strike, 3);
        });
        Edge.of(13, "FIXTURES are the first n alone: how many there were", "the first, none", () -> {
            LoseLeague x = Check.told(FIVE + "game 0 1;game 1 2;game 2 3;");
            Check.due("strike(1)", x.strike(1), 3);
            Check.due("the first one stays", x.fixture(0, 0) * 10 + x.fixture(0, 1), 1);
            Check.due("fixture(1, 0)", x.fixture(1, 0), -1);
            Check.due("strike(0)", x.strike(0), 1);
            Check.due("they are", x.rule(1), 0);
        });
    }

    private static void weeks() {
        Edge.of(14, "n WEEKS (0 to 30): how many GAMES are lost in them", "n at both ends", () -> {
            LoseLeague x = Check.told("plain 5;plain 4;game 0 1;");
            // 5 by 4, 4 by 5 and so on: one loses each week
            Edge.bad("weeks(#)", x::weeks, -1, 31, Edge.MIN, Edge.MAX);
            Check.due("WEEK", x.rule(2), 0);
            Check.due("weeks(0)", x.weeks(0), 0);
            Check.due("WEEK", x.rule(2), 0);
            Check.due("weeks(30)", x.weeks(30), 30);
            Check.due("WEEK", x.rule(2), 30);
            Check.due("weeks(1)", x.weeks(1), 1);
            Check.due("WEEK", x.rule(2), 31);
        });
        Edge.of(14, "how many GAMES are lost in them", "none: each is a DRAW, there are none", () -> {
            Check.due("a DRAW each", Check.told("plain 5;plain 5;game 0 1;").weeks(30), 0);
            Check.due("no FIXTURES", Check.told("plain 5;plain 4;").weeks(30), 0);
            Check.due("no TOWNS", new LoseLeague().weeks(30), 0);
        });
        Edge.of(14, "FULL: WEEK would be 1000 or more", "999, 1000", () -> {
            LoseLeague x = Check.told("plain 5;plain 4;game 0 1;");
            Edge.passWeeks(x, 990);
            Check.due("WEEK", x.rule(2), 990);
            Check.due("weeks(30)", x.weeks(30), -3);
            Check.due("weeks(10)", x.weeks(10), -3);
            Check.due("WEEK", x.rule(2), 990);
            Check.due("weeks(9)", x.weeks(9), 9);
            Check.due("WEEK", x.rule(2), 999);
            Check.due("weeks(1)", x.weeks(1), -3);
            Check.due("weeks(0)", x.weeks(0), 0);
            Check.due("WEEK", x.rule(2), 999);
        });
        Edge.of(14, "FULL: WEEK would be 1000 or more", "also if nothing is played", () -> {
            LoseLeague x = new LoseLeague();
            Edge.passWeeks(x, 970);
            Check.due("weeks(30)", x.weeks(30), -3);
            Check.due("weeks(29)", x.weeks(29), 0);
            Check.due("weeks(1)", x.weeks(1), -3);
            Check.due("WEEK", x.rule(2), 999);
        });
        Edge.of(14, "BAD; FULL", "BAD comes first", () -> {
            LoseLeague x = new LoseLeague();
            Edge.passWeeks(x, 999);
            Check.due("weeks(31)", x.weeks(31), -1);
            Check.due("weeks(30)", x.weeks(30), -3);
            Check.due("weeks(-1)", x.weeks(-1), -1);
        });
    }

    /** Town 0, which LOSES to town 1, and town 1 behind the GAME, in the middle of a YEAR. */
    private static LoseLeague lost(String loser, int losses, String winner) {
        LoseLeague x = Check.told(loser + ";" + winner + ";game 0 1;game 0 1;");
        x.alter(0, 2, losses);
        Check.due(loser + " LOSES to " + winner, x.game(0, 1), 0);
        Check.due("weeks(1)", x.weeks(1), 1);
        return x;
    }

    private static void aGame() {
        Edge.of(Edge.TERMS, "its LOSSES are 1 more (99 at most)", "0, 98, 99", () -> {
            Check.due("0", lost("plain 3", 0, "plain 9").town(0, 2), 1);
            Check.due("98", lost("plain 3", 98, "plain 9").town(0, 2), 99);
            Check.due("99", lost("plain 3", 99, "plain 9").town(0, 2), 99);
        });
        Edge.of(Edge.TERMS, "its STRENGTH is more by what it TRAINS (20 at most)", "18, 19, 20", () -> {
            Check.due("plain 18", lost("plain 18", 0, "proud 20").town(0, 1), 19);
            Check.due("plain 19", lost("plain 19", 0, "proud 20").town(0, 1), 20);
            Check.due("plain 20", lost("plain 20", 0, "proud 20").town(0, 1), 20);
            Check.due("proud 17", lost("proud 17", 0, "proud 20").town(0, 1), 19);
            Check.due("proud 18", lost("proud 18", 0, "proud 20").town(0, 1), 20);
            Check.due("proud 19", lost("proud 19", 0, "proud 20").town(0, 1), 20);
            Check.due("wise 19", lost("wise 19", 1, "proud 20").town(0, 1), 20);
            Check.due("wise 20", lost("wise 20", 0, "proud 20").town(0, 1), 20);
            Check.due("careless 20", lost("careless 20", 0, "proud 20").town(0, 1), 20);
        });
        Edge.of(Edge.TERMS, "TRAINS by KIND: plain 1; proud 1 more than a plain one; wise as a plain one; careless 1 less than a wise one.", "from 0 on", () -> {
            Check.due("plain 0", lost("plain 0", 0, "plain 9").town(0, 1), 1);
            Check.due("proud 0", lost("proud 0", 0, "plain 9").town(0, 1), 2);
            Check.due("wise 0", lost("wise 0", 0, "plain 9").town(0, 1), 1);
            Check.due("wise 0, LOSSES", lost("wise 0", 5, "plain 9").town(0, 1), 1);
            Check.due("careless 0", lost("careless 0", 0, "plain 9").town(0, 1), 0);
            Check.due("careless 3, LOSSES", lost("careless 3", 5, "plain 9").town(0, 1), 3);
        });
        Edge.of(Edge.TERMS, "STRENGTH of the other one is 1 less (0 at least)", "2, 1, 0", () -> {
            Check.due("proud 2", lost("plain 0", 0, "proud 2").town(1, 1), 1);
            Check.due("proud 1", lost("plain 0", 0, "proud 1").town(1, 1), 0);
            Check.due("proud 0", lost("plain 2", 0, "proud 0").town(1, 1), 0);
            Check.due("its LOSSES stay", lost("plain 2", 0, "proud 0").town(1, 2), 0);
        });
        Edge.of(Edge.TERMS, "If both PLAY as much it is a DRAW: nothing changes.", "at both bounds", () -> {
            String[] texts = {"plain 0;careless 5;", "plain 20;proud 17;", "wise 20;plain 10;"};
            for (String text : texts) {
                LoseLeague x = Check.told(text + "game 0 1;game 0 1;");
                LoseLeague y = Check.told(text + "game 0 1;game 0 1;");
                Check.due(text + " weeks(1)", x.weeks(1), 0);
                for (int i = 0; i < 8; i++) {
                    Check.due(text + " town " + i, x.town(i / 4, i % 4), y.town(i / 4, i % 4));
                }
            }
        });
        Edge.of(Edge.TERMS, "A GAME of two TOWNS: the one that PLAYS less LOSES", "by one, the first, the second; nobody else has to do with it", () -> {
            LoseLeague x = Check.told("plain 4;plain 5;plain 9;game 0 1;game 1 2;");
            x.weeks(1);
            Check.due("the first", x.rule(4), 1);
            Check.due("STRENGTHS", x.town(0, 1) * 10000 + x.town(1, 1) * 100 + x.town(2, 1), 50409);
            x = Check.told("plain 5;plain 4;plain 9;game 0 1;game 1 2;");
            x.weeks(1);
            Check.due("the second", x.rule(4), 2);
            Check.due("STRENGTHS", x.town(0, 1) * 10000 + x.town(1, 1) * 100 + x.town(2, 1), 40509);
        });
    }

    private static void aWeek() {
        Edge.of(Edge.TERMS, "the GAME of the FIXTURE whose number WEEK leaves by FIXTURES (none, if there are none)", "none", () -> {
            LoseLeague x = Check.told("plain 5;plain 4;");
            x.alter(0, 2, 3);
            x.alter(1, 3, 4);
            x.weeks(30);
            Check.due("STRENGTHS", x.town(0, 1) * 10 + x.town(1, 1), 54);
            Check.due("LOSSES stay", x.town(0, 2), 3);
            Check.due("no YEAR is over", x.rule(5), 4);
            Check.due("WEEK goes on", x.rule(2), 30);
        });
        Edge.of(Edge.TERMS, "A WEEK: the GAME of the FIXTURE whose number WEEK leaves by FIXTURES", "the first behind the last", () -> {
            LoseLeague x = Check.told("plain 1;plain 9;plain 1;plain 9;plain 5;game 0 1;game 2 3;");
            x.weeks(1);
            Check.due("WEEK 0: 0 LOSES", x.town(0, 1) * 10 + x.town(2, 1), 21);
            x.weeks(1);
            Check.due("WEEK 1: 2 LOSES", x.town(0, 1) * 10 + x.town(2, 1), 22);
            x.weeks(1);
            Check.due("WEEK 2: 0 LOSES", x.town(0, 1) * 10 + x.town(2, 1), 32);
        });
        Edge.of(Edge.TERMS, "if that is the last one, the YEAR is over then", "of one, of ten", () -> {
            LoseLeague one = Check.told("plain 5;plain 5;game 0 1;");
            for (int week = 1; week <= 4; week++) {
                one.weeks(1);
                Check.due("of one, WEEK " + week, one.rule(5), 2 * week);
            }
            LoseLeague ten = Check.told("plain 5;plain 5;" + "game0 1;".repeat(10));
            for (int week = 1; week <= 21; week++) {
                ten.weeks(1);
                Check.due("of ten, WEEK " + week, ten.rule(5), week / 10 * 2);
            }
        });
        Edge.of(Edge.TERMS, "if that is the last one, the YEAR is over then", "then: behind its GAME", () -> {
            LoseLeague x = Check.told("plain 4;plain 5;game 0 1;");
            x.weeks(1);
            Check.due("who LOSES in it OWES nothing", x.town(0, 3), 0);
            Check.due("the other one does", x.town(1, 3), 1);
            Check.due("LOSSES are 0", x.town(0, 2), 0);
        });
        Edge.of(Edge.TERMS, "if that is the last one, the YEAR is over then", "FIXTURES are struck, are booked", () -> {
            LoseLeague x = Check.told("plain 5;plain 5;game0 1;game0 1;game0 1;");
            x.weeks(1);
            x.strike(2);
            x.weeks(1);
            Check.due("WEEK 1 is the last of two", x.rule(5), 2);
            x.book(0, 1);
            x.weeks(1);
            Check.due("WEEK 2 is the last of three", x.rule(5), 4);
        });
        Edge.of(Edge.TERMS, "each TOWN that has no LOSSES OWES 1 more (99 at most)", "97, 98, 99", () -> {
            LoseLeague x = Check.told("plain 5;plain 5;plain 1;plain 1;plain 1;game 0 1;");
            for (int t = 0; t < 4; t++) {
                x.alter(t, 3, 97 + Math.min(t, 2));
            }
            x.weeks(1);
            int[] want = {98, 99, 99, 99, 1};
            for (int t = 0; t < 5; t++) {
                Check.due("town " + t, x.town(t, 3), want[t]);
            }
            Edge.passWeeks(x, 120);
            Check.due("OWED", x.rule(5), 495);
        });
        Edge.of(Edge.TERMS, "each TOWN that has no LOSSES OWES 1 more (99 at most)", "one is enough; also who never plays", () -> {
            LoseLeague x = Check.told("plain 5;plain 5;plain 1;plain 1;plain 1;game 0 1;");
            x.alter(0, 2, 1);
            x.alter(3, 2, 99);
            x.weeks(1);
            int[] want = {0, 1, 1, 0, 1};
            for (int t = 0; t < 5; t++) {
                Check.due("town " + t, x.town(t, 3), want[t]);
            }
        });
        Edge.of(Edge.TERMS, "LOSSES of all become 0", "1, 99; then, not ahead of it", () -> {
            LoseLeague x = Check.told("plain 5;plain 5;plain 1;plain 1;plain 1;game0 1;game0 1;");
            for (int t = 0; t < 5; t++) {
                x.alter(t, 2, t == 4 ? 99 : t + 1);
            }
            x.weeks(1);
            Check.due("not yet", x.rule(4), 31);
            x.weeks(1);
            Check.due("then", x.rule(4), 0);
            Check.due("LOSSES of all", x.count(5), 0);
        });
        Edge.of(Edge.TERMS, "WEEK is 1 more.", "whatever is played", () -> {
            LoseLeague x = Check.told("plain 5;plain 4;plain 4;game 0 1;game 1 2;");
            for (int week = 1; week <= 5; week++) {
                x.weeks(1);
                Check.due("WEEK", x.rule(2), week);
            }
        });
    }
}
