/** What the terms say of all calls at once: numbers, TOWNS, FIXTURES, PLAYS, A GAME, OWED, SEEN, SHEETS. */
final class EdgesOfTerms {
    private static final String FIVE = "plain 9;proud 6;wise 17;careless 20;plain 4;";
    private static final String[] KINDS = {"plain", "proud", "wise", "careless"};
    private static final int[] TRAINS = {1, 2, 1, 0};

    private EdgesOfTerms() {
    }

    static void all() {
        numbers();
        towns();
        fixtures();
        plays();
        everyGame();
        owed();
        seen();
        sheets();
    }

    private static void numbers() {
        String sentence = "What is numbered has its numbers from 0 on, as it comes, where nothing else is told.";
        Edge.of(Edge.TERMS, sentence, "IMAGES, SHEETS, lanes", () -> {
            LoseLeague x = Check.told(FIVE);
            for (int k = 0; k < 2; k++) {
                Check.due("keep(" + k + ")", x.keep(k), 0);
            }
            Check.due("keep(2)", x.keep(2), -1);
            for (int k = 0; k < 4; k++) {
                for (int lane = 0; lane < 3; lane++) {
                    Check.due("sheet(" + k + ", " + lane + ", 1)", x.sheet(k, lane, 1), 1);
                }
                Check.due("sheet(" + k + ", 3, 1)", x.sheet(k, 3, 1), -1);
            }
            Check.due("sheet(4, 0, 1)", x.sheet(4, 0, 1), -1);
        });
        Edge.of(Edge.TERMS, sentence, "where something else is told: nobody is 9, places of order() are 10 and i", () -> {
            LoseLeague x = Check.told("plain 5;plain 5;game 0 1;");
            Check.due("see(0, 2)", x.see(0, 2), -1);
            Check.due("see(0, 9)", x.see(0, 9), 1);
            Check.due("order(1)", x.order(1), -1);
            Check.due("order(10)", x.order(10), 0);
        });
    }

    private static void towns() {
        Edge.of(Edge.TERMS, "TOWNS (5 at most), by order, each of a KIND", "as the lines come, games between them", () -> {
            LoseLeague x = Check.told("wise 2;game 4 0;plain 0;careless 4;game 1 2;wise 1;proud 3;");
            int[] kinds = {2, 0, 3, 2, 1};
            int[] strengths = {2, 0, 4, 1, 3};
            for (int t = 0; t < 5; t++) {
                Check.due("KIND of " + t, x.town(t, 0), kinds[t]);
                Check.due("STRENGTH of " + t, x.town(t, 1), strengths[t]);
            }
        });
        Edge.of(Edge.TERMS, "K: a TOWN more of that KIND: STRENGTH.", "each K, each STRENGTH", () -> {
            for (int kind = 0; kind < 4; kind++) {
                for (int strength = 0; strength <= 20; strength++) {
                    LoseLeague x = Check.told(KINDS[kind] + strength + ";");
                    Check.due(KINDS[kind] + strength + ", TOWNS", x.rule(0), 1);
                    Check.due(KINDS[kind] + strength + ", KIND", x.town(0, 0), kind);
                    Check.due(KINDS[kind] + strength + ", STRENGTH", x.town(0, 1), strength);
                }
            }
        });
    }

    private static int pair(LoseLeague x, int i) {
        return x.fixture(i, 0) * 10 + x.fixture(i, 1);
    }

    private static void fixtures() {
        String sentence = "FIXTURES (10 at most), by order, each of two unlike TOWNS: a YEAR.";
        Edge.of(Edge.TERMS, sentence, "by order, whichever way they come", () -> {
            LoseLeague x = Check.told("game 3 1;" + FIVE + "game 0 4;");
            x.book(2, 0);
            x.sheet(0, 0, 4);
            int[] cells = {1, 2, 4, 3};
            for (int i = 0; i < 4; i++) {
                x.lay(0, i, cells[i]);
            }
            x.read(0, 0, 0, 2);
            x.book(4, 2);
            int[] pairs = {31, 4, 20, 12, 43, 42};
            for (int i = 0; i < 6; i++) {
                Check.due("FIXTURE " + i, pair(x, i), pairs[i]);
            }
            Check.due("no more", pair(x, 6), -11);
        });
        Edge.of(Edge.TERMS, sentence, "two unlike TOWNS, whichever way they come", () -> {
            for (int t = 0; t < 5; t++) {
                LoseLeague x = Check.told(FIVE);
                x.sheet(0, 0, 2);
                x.lay(0, 0, t);
                x.lay(0, 1, t);
                Check.due("book()", x.book(t, t), -1);
                Check.due("read()", x.read(0, 0, 0, 1), -20);
                Check.due("text()", Check.tell(x, FIVE + "game " + t + " " + t + ";"), -10 - FIVE.length() - 7);
                Check.due("FIXTURES", x.rule(1), 0);
            }
        });
        Edge.of(Edge.TERMS, sentence, "a YEAR is as long as they are many", () -> {
            for (int n = 1; n <= 10; n++) {
                LoseLeague x = Check.told("plain 5;plain 5;" + "game0 1;".repeat(n));
                for (int week = 1; week <= 22; week++) {
                    x.weeks(1);
                    Check.due(n + " FIXTURES, behind WEEK " + week, x.rule(5), week / n * 2);
                }
            }
        });
    }

    private static void plays() {
        Edge.of(Edge.TERMS, "PLAYS by KIND, from STRENGTH, LOSSES", "from nothing else: OWES, WEEK, other TOWNS", () -> {
            int[] wants = {9, 12, 4, 2};
            for (int kind = 0; kind < 4; kind++) {
                LoseLeague x = Check.told("plain 1;" + KINDS[kind] + " 9;" + KINDS[kind] + " 9;game 0 1;game 0 1;");
                x.alter(1, 3, 99);
                x.alter(0, 2, 99);
                Check.due(KINDS[kind] + ", as the second TOWN", x.town(1, 4), wants[kind]);
                Check.due(KINDS[kind] + ", as the third TOWN", x.town(2, 4), wants[kind]);
                x.weeks(1);
                Check.due(KINDS[kind] + ", a WEEK later", x.town(2, 4), wants[kind]);
                Edge.passWeeks(x, 99);
                Check.due(KINDS[kind] + ", many YEARS later", x.town(2, 4), wants[kind]);
            }
        });
    }

    private static int playsOf(int kind, int strength, int losses) {
        int wise = losses > 0 ? strength : strength >> 1;
        return new int[] {strength, strength + 3, wise, wise < 2 ? 0 : wise - 2}[kind];
    }

    /** One GAME, told by game() and by what is behind the WEEK in which it is played. */
    private static void oneGame(LoseLeague x, int[] a, int[] b) {
        for (int what = 0; what < 3; what++) {
            x.alter(0, what, a[what]);
            x.alter(1, what, b[what]);
        }
        int first = playsOf(a[0], a[1], a[2]);
        int second = playsOf(b[0], b[1], b[2]);
        int loser = first < second ? 0 : first > second ? 1 : -4;
        String name = "KIND, STRENGTH, LOSSES " + a[0] + ", " + a[1] + ", " + a[2] + " by " + b[0] + ", " + b[1] + ", " + b[2];
        Check.due(name + ": game()", x.game(0, 1), loser);
        int[][] towns = {a, b};
        for (int t = 0; t < 2; t++) {
            int[] was = towns[t];
            int strength = t == loser ? Math.min(20, was[1] + TRAINS[was[0]]) : loser < 0 ? was[1] : Math.max(0, was[1] - 1);
            Check.due(name + ": STRENGTH of " + t, x.ahead(t, 1, 0), strength);
            Check.due(name + ": LOSSES of " + t, x.ahead(t, 1, 1), t == loser ? Math.min(99, was[2] + 1) : was[2]);
        }
    }

    private static void everyGame() {
        Edge.of(Edge.TERMS, "A GAME of two TOWNS: the one that PLAYS less LOSES", "each KIND by each, of each STRENGTH, with no LOSSES, with 99", () -> {
            int[] losses = {0, 99};
            for (int i = 0; i < 4 * 21 * 2; i++) {
                int[] a = {i / 42, i / 2 % 21, losses[i % 2]};
                for (int kind = 0; kind < 4; kind++) {
                    // 42 GAMES of 11 calls each: an object is used for 512 at most
                    LoseLeague x = Check.told("plain0;wise0;game0 1;game0 1;");
                    for (int j = 0; j < 42; j++) {
                        oneGame(x, a, new int[] {kind, j / 2, losses[j % 2]});
                    }
                }
            }
        });
    }

    private static void owed() {
        Edge.of(Edge.TERMS, "OWED: what all OWE, summed.", "wherever it is told", () -> {
            LoseLeague x = Check.told(FIVE);
            int[] owes = {1, 20, 0, 99, 7};
            for (int t = 0; t < 5; t++) {
                x.alter(t, 3, owes[t]);
            }
            Check.due("rule(5)", x.rule(5), 127);
            Check.due("runs(0, 2)", x.runs(0, 2), 127);
            Check.due("order(0)", x.order(0), 127);
            Check.due("kind(4, 0, 1)", x.kind(4, 0, 1), 127);
            Check.due("mean(5, 0, 0)", x.mean(5, 0, 0), 127);
            Check.due("drift(1, 1, 0)", x.drift(1, 1, 0), 127);
        });
    }

    private static void seen() {
        String sentence = "SEEN (6): in WEEK n (0 to 20), counted from the WEEK that it is when it is asked of"
            + " (not from see() on), a TOWN LOSES, or nobody (9).";
        Edge.of(Edge.TERMS, sentence, "in each WEEK who does LOSE, and nobody else", () -> {
            for (int later = 0; later < 3; later++) {
                LoseLeague x = Check.told("plain 7;proud 4;wise 15;game 0 1;game 1 2;game 2 0;");
                x.weeks(later);
                for (int n = 0; n <= 20; n++) {
                    int loser = x.loser(n);
                    for (int t : new int[] {0, 1, 2, 9}) {
                        x.see(n, t);
                        Check.due("in WEEK " + n + " " + t + " is SEEN to LOSE", x.kinds(1) >> 1 & 1, t == (loser < 0 ? 9 : loser) ? 1 : 0);
                        x.forget(0);
                    }
                }
            }
        });
    }

    private static void sheets() {
        String sentence = "SHEETS 0 to 3 are rows of BYTES (lane 0), SHORTS (1), INTS (2), all with a sign, with 0 to 40 CELLS";
        Edge.of(Edge.TERMS, sentence, "each of the four by itself", () -> {
            LoseLeague x = Check.told(FIVE);
            for (int k = 0; k < 4; k++) {
                x.sheet(k, k % 3, 2 + k);
                x.lay(k, 0, k);
                x.lay(k, 1, 4);
            }
            for (int k = 0; k < 4; k++) {
                Check.due("the last CELL of " + k, x.lay(k, 1 + k, 4), 1);
                Check.due("no CELL of " + k, x.lay(k, 2 + k, 0), -12);
                Check.due("read(" + k + ")", x.read(k, k % 3, 0, 1), 1);
                Check.due("FIXTURE " + k, pair(x, k), k * 10 + 4);
            }
        });
    }
}
