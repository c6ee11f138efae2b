/** Promises 14 to 18: weeks, runs, ahead, loser, loses; and what a game and a week do. */
public final class WeeksTest {
    /**
     * Town 0 plays 17 more than town 1, once in ten weeks, 3 less by every game that it wins: it loses
     * the 7th of them. The others always draw.
     */
    private static String slowYear(int placeOfGame) {
        StringBuilder s = new StringBuilder("plain 20;proud 0;plain 1;plain 1;");
        for (int i = 0; i < 10; i++) {
            s.append(i == placeOfGame ? "game 0 1;" : "game 2 3;");
        }
        return s.toString();
    }

    private static void town(LoseLeague x, int t, int strength, int losses, int owes) {
        Check.due("strength of " + t, x.town(t, 1), strength);
        Check.due("losses of " + t, x.town(t, 2), losses);
        Check.due("owes of " + t, x.town(t, 3), owes);
    }

    private static void aGame() {
        String[] kinds = {"plain", "proud", "wise", "careless"};
        int[] trained = {4, 5, 4, 3};
        for (int k = 0; k < 4; k++) {
            LoseLeague x = Check.told(kinds[k] + " 3;plain 20;game 0 1;game 1 0;");
            Check.due("weeks(1)", x.weeks(1), 1);
            town(x, 0, trained[k], 1, 0);
            town(x, 1, 19, 0, 0);
            Check.due("weeks(1), the last of the year", x.weeks(1), 1);
            Check.due("losses are none again", x.town(0, 2), 0);
            town(x, 1, 18, 0, 1);
            Check.due("it lost, so it owes nothing", x.town(0, 3), 0);
        }
    }

    private static void theBounds() {
        LoseLeague x = Check.told("proud 19;proud 20;plain 2;proud 0;game 0 1;game 2 3;game 0 1;");
        x.alter(0, 2, 99);
        x.weeks(1);
        town(x, 0, 20, 99, 0);
        town(x, 1, 19, 0, 0);
        x.weeks(1);
        town(x, 2, 3, 1, 0);
        town(x, 3, 0, 0, 0);
        x.alter(3, 3, 99);
        x.alter(2, 3, 99);
        x.alter(0, 3, 99);
        x.alter(1, 3, 98);
        x.alter(1, 2, 0);
        // 0 plays 23, 1 plays 22: 1 loses the last game of the year
        x.weeks(1);
        town(x, 3, 0, 0, 99);
        town(x, 2, 3, 0, 99);
        town(x, 1, 20, 0, 98);
        town(x, 0, 19, 0, 99);
    }

    private static void draws() {
        LoseLeague x = Check.told("plain 5;proud 2;game 0 1;game 0 1;");
        x.alter(0, 2, 4);
        Check.due("weeks(1), a draw", x.weeks(1), 0);
        town(x, 0, 5, 4, 0);
        town(x, 1, 2, 0, 0);
        Check.due("weeks(1)", x.weeks(1), 0);
        town(x, 0, 5, 0, 0);
        town(x, 1, 2, 0, 1);
    }

    private static void weeks() {
        LoseLeague x = Check.told("plain 5;plain 3;game 0 1;");
        Check.due("weeks(0)", x.weeks(0), 0);
        Check.due("weeks(-1)", x.weeks(-1), -1);
        Check.due("weeks(31)", x.weeks(31), -1);
        Check.due("weeks(3): then they draw", x.weeks(3), 1);
        town(x, 0, 4, 0, 3);
        town(x, 1, 4, 0, 2);
        Check.due("the week", x.rule(2), 3);
        Check.due("weeks(30)", x.weeks(30), 0);
        Check.due("the week", x.rule(2), 33);
        LoseLeague none = Check.told("plain 5;plain 3;");
        Check.due("without fixtures", none.weeks(7), 0);
        Check.due("the week goes on", none.rule(2), 7);
        Check.due("no year is over", none.rule(5), 0);
    }

    private static void weekLimit() {
        LoseLeague x = Check.told("plain 5;plain 3;game 0 1;");
        for (int i = 0; i < 33; i++) {
            x.weeks(30);
        }
        Check.due("the week", x.rule(2), 990);
        Check.due("weeks(10)", x.weeks(10), -3);
        Check.due("BAD ahead of FULL", x.weeks(31), -1);
        Check.due("refused", x.rule(2), 990);
        Check.due("weeks(9)", x.weeks(9), 0);
        Check.due("weeks(1)", x.weeks(1), -3);
        Check.due("weeks(0)", x.weeks(0), 0);
        Check.due("the week", x.rule(2), 999);
        Check.due("owed stays at its bound", x.rule(5), 198);
        Check.due("by weeks there is no limit", x.runs(60, 1), 60);
    }

    private static void runs() {
        LoseLeague x = Check.told("plain 5;plain 3;game 0 1;game 1 0;");
        int[][] due = {{0, 0, 0, 0}, {1, 0, 0, 2}, {1, 1, 1, 0}, {1, 2, 1, 0}, {1, 3, 3, 0}};
        for (int n = 0; n < due.length; n++) {
            for (int what = 0; what <= 3; what++) {
                Check.due("runs(" + n + ", " + what + ")", x.runs(n, what), due[n][what]);
            }
        }
        Check.due("runs(60, 1)", x.runs(60, 1), 59);
        Check.due("runs(60, 2)", x.runs(60, 2), 59);
        Check.due("runs(61, 0)", x.runs(61, 0), -1);
        Check.due("runs(-1, 0)", x.runs(-1, 0), -1);
        Check.due("runs(0, 4)", x.runs(0, 4), -1);
        Check.due("runs(0, -1)", x.runs(0, -1), -1);
        Check.due("nothing is changed", x.rule(2) + x.town(1, 2) + x.rule(5), 0);
        LoseLeague none = Check.told("plain 5;plain 3;");
        none.alter(0, 2, 1);
        none.alter(1, 3, 6);
        int[] without = {0, 0, 6, 1};
        for (int what = 0; what <= 3; what++) {
            Check.due("without fixtures runs(9, " + what + ")", none.runs(9, what), without[what]);
        }
    }

    private static void ahead() {
        LoseLeague x = Check.told("plain 5;proud 1;game 0 1;game 0 1;game 0 1;");
        // 5 by 4: 1 loses; 4 by 6: 0 loses; 5 by 5: a draw
        int[][] strengths = {{5, 1}, {4, 3}, {5, 2}, {5, 2}};
        int[][] losses = {{0, 0}, {0, 1}, {1, 1}, {0, 0}};
        for (int n = 0; n < 4; n++) {
            for (int t = 0; t < 2; t++) {
                Check.due("ahead(" + t + ", " + n + ", 0)", x.ahead(t, n, 0), strengths[n][t]);
                Check.due("ahead(" + t + ", " + n + ", 1)", x.ahead(t, n, 1), losses[n][t]);
                Check.due("ahead(" + t + ", " + n + ", 2)", x.ahead(t, n, 2), 0);
            }
        }
        Check.due("a year later", x.ahead(0, 6, 2), 1);
        Check.due("ahead(1, 60, 2)", x.ahead(1, 60, 2), 19);
        Check.due("ahead(1, 61, 2)", x.ahead(1, 61, 2), -1);
        Check.due("ahead(1, -1, 2)", x.ahead(1, -1, 2), -1);
        Check.due("ahead(2, 0, 0)", x.ahead(2, 0, 0), -1);
        Check.due("ahead(-1, 0, 0)", x.ahead(-1, 0, 0), -1);
        Check.due("ahead(0, 0, 3)", x.ahead(0, 0, 3), -1);
        Check.due("ahead(0, 0, -1)", x.ahead(0, 0, -1), -1);
        Check.due("nothing is changed", x.rule(2) + x.town(1, 2), 0);
        x.weeks(1);
        Check.due("from now on", x.ahead(0, 1, 1), 1);
    }

    private static void loserAndLoses() {
        LoseLeague x = Check.told("plain 5;proud 1;game 0 1;game 0 1;game 0 1;");
        int[] losers = {1, 0, -4};
        for (int n = 0; n < 3; n++) {
            Check.due("loser(" + n + ")", x.loser(n), losers[n]);
        }
        Check.due("loses(0)", x.loses(0), 1);
        Check.due("loses(1)", x.loses(1), 0);
        x.weeks(1);
        Check.due("loser(0), a week later", x.loser(0), 0);
        Check.due("loses(0), a week later", x.loses(0), 0);
        Check.due("loses(1), a week later", x.loses(1), -4);
        Check.due("loser(61)", x.loser(61), -1);
        Check.due("loser(-1)", x.loser(-1), -1);
        Check.due("loses(2)", x.loses(2), -1);
        Check.due("loses(-1)", x.loses(-1), -1);
        Check.due("without fixtures", Check.told("plain 5;").loser(0), -4);
        Check.due("without fixtures", Check.told("plain 5;").loses(0), -4);
        LoseLeague slow = Check.told(slowYear(0));
        Check.due("the last week", slow.loser(60), 0);
        Check.due("the last week", slow.loses(0), 60);
        Check.due("ten weeks ahead of it", slow.loser(50), 1);
        Check.due("a week too late", Check.told(slowYear(1)).loses(0), -4);
        Check.due("nothing is changed", slow.rule(2), 0);
    }

    public static void main(String[] args) {
        aGame();
        theBounds();
        draws();
        weeks();
        weekLimit();
        runs();
        ahead();
        loserAndLoses();
        Check.finish("WeeksTest");
    }
}
