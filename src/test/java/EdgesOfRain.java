/** Boundary cases of promises 25 and 26: luck, mean; and of fractions. */
final class EdgesOfRain {
    /** A YEAR a WEEK; 1 LOSES the first GAME that is played, then they DRAW. */
    private static final String SHORT = "plain 5;plain 3;game 0 1;";
    private static final String NO_LOWER = "Fractions are in lowest terms, told as two numbers, first the numerator, then the denominator, which is above 0 (0 is 0 by 1).";

    private EdgesOfRain() {
    }

    static void all() {
        luck();
        luckBad();
        mean();
        meanBad();
        fractions();
    }

    private static void luck(LoseLeague x, int v, int t, int n, long numerator, long denominator) {
        String call = "luck(" + v + ", " + t + ", " + n;
        Check.due(call + ", 0)", x.luck(v, t, n, 0), numerator);
        Check.due(call + ", 1)", x.luck(v, t, n, 1), denominator);
    }

    private static void mean(LoseLeague x, int v, int n, long numerator, long denominator) {
        String call = "mean(" + v + ", " + n;
        Check.due(call + ", 0)", x.mean(v, n, 0), numerator);
        Check.due(call + ", 1)", x.mean(v, n, 1), denominator);
    }

    private static void luck() {
        Edge.of(25, "is rained off by v out of ten (0 to 10)", "never, once in ten, nine times in ten, always", () -> {
            LoseLeague x = Check.told(SHORT);
            luck(x, 0, 1, 1, 1, 1);
            luck(x, 1, 1, 1, 9, 10);
            luck(x, 9, 1, 1, 1, 10);
            luck(x, 10, 1, 1, 0, 1);
            luck(x, 0, 1, 8, 1, 1);
            luck(x, 10, 1, 8, 0, 1);
        });
        Edge.of(25, "The GAME of each of n WEEKS (0 to 8)", "of no WEEKS; the eighth counts", () -> {
            LoseLeague x = Check.told("plain 5;plain 3;plain 1;plain 1;" + "game2 3;".repeat(7) + "game0 1;game2 3;");
            luck(x, 3, 1, 0, 0, 1);
            luck(x, 0, 1, 0, 0, 1);
            luck(x, 3, 1, 7, 0, 1);
            luck(x, 3, 1, 8, 7, 10);
            x.weeks(7);
            luck(x, 3, 1, 1, 7, 10);
        });
        Edge.of(25, "that a TOWN LOSES in any of them", "in more than one counts once; in one is enough", () -> {
            LoseLeague x = Check.told("plain 0;plain 20;game 0 1;");
            luck(x, 5, 0, 1, 1, 2);
            luck(x, 5, 0, 2, 3, 4);
            luck(x, 5, 0, 8, 255, 256);
            luck(x, 9, 0, 8, 56953279, 100000000);
            luck(x, 1, 0, 8, 99999999, 100000000);
            luck(x, 5, 1, 8, 0, 1);
        });
        Edge.of(25, "by itself (it is not played, all else goes as it does)", "the last WEEK of a YEAR, rained off, ends it", () -> {
            // wise 8 has LOST: it PLAYS 8 by 5 until the YEAR is over, and then 4
            LoseLeague x = Check.told("wise 8;plain 5;plain 1;plain 1;game 0 1;game 2 3;");
            x.alter(0, 2, 1);
            x.weeks(1);
            x.alter(1, 1, 5);
            x.alter(0, 1, 8);
            luck(x, 0, 0, 2, 1, 1);
            luck(x, 5, 0, 2, 1, 2);
            luck(x, 5, 0, 1, 0, 1);
        });
        Edge.of(25, "by itself (it is not played, all else goes as it does)", "no FIXTURES", () -> {
            luck(Check.told("plain 5;plain 3;"), 3, 0, 8, 0, 1);
        });
    }

    private static void luckBad() {
        LoseLeague x = Check.told("plain 5;plain 3;plain 1;plain 1;plain 1;game 0 1;");
        Edge.of(25, "that a TOWN LOSES in any of them: 0, 1. BAD.", "v at both ends", () -> {
            Edge.taken("luck(#, 0, 1, 0)", v -> x.luck(v, 0, 1, 0), 0, 1, 9, 10);
            Edge.bad("luck(#, 0, 1, 0)", v -> x.luck(v, 0, 1, 0), -1, 11, Edge.MIN, Edge.MAX);
        });
        Edge.of(25, "that a TOWN LOSES in any of them: 0, 1. BAD.", "no such TOWN", () -> {
            Edge.taken("luck(3, #, 1, 0)", t -> x.luck(3, t, 1, 0), 0, 4);
            Edge.bad("luck(3, #, 1, 0)", t -> x.luck(3, t, 1, 0), -1, -4, 5, 9, Edge.MIN, Edge.MAX);
            Check.due("of none", new LoseLeague().luck(0, 0, 0, 0), -1);
        });
        Edge.of(25, "that a TOWN LOSES in any of them: 0, 1. BAD.", "n at both ends", () -> {
            Edge.taken("luck(3, 0, #, 0)", n -> x.luck(3, 0, n, 0), 0, 1, 7, 8);
            Edge.bad("luck(3, 0, #, 0)", n -> x.luck(3, 0, n, 0), -1, 9, 31, 32, Edge.MIN, Edge.MAX);
        });
        Edge.of(25, "that a TOWN LOSES in any of them: 0, 1. BAD.", "what at both ends", () -> {
            Edge.taken("luck(3, 0, 1, #)", what -> x.luck(3, 0, 1, what), 0, 1);
            Edge.bad("luck(3, 0, 1, #)", what -> x.luck(3, 0, 1, what), -1, 2, Edge.MIN, Edge.MAX);
        });
        Edge.of(25, "The GAME of each of n WEEKS", "nothing is changed", () -> {
            String before = Check.state(x);
            x.luck(3, 0, 8, 0);
            Check.same("behind luck()", Check.state(x), before);
        });
    }

    private static void mean() {
        Edge.of(26, "Likewise, the mean of OWED behind them", "never, once in ten, nine times in ten, always", () -> {
            LoseLeague x = Check.told(SHORT);
            mean(x, 0, 1, 1, 1);
            mean(x, 1, 1, 11, 10);
            mean(x, 9, 1, 19, 10);
            mean(x, 10, 1, 2, 1);
            mean(x, 0, 8, 15, 1);
            mean(x, 10, 8, 16, 1);
        });
        Edge.of(26, "Likewise, the mean of OWED behind them", "of no WEEKS as it is; the eighth counts", () -> {
            LoseLeague x = Check.told("plain 5;plain 5;plain 5;plain 5;" + "game2 3;".repeat(8));
            x.alter(0, 3, 7);
            mean(x, 3, 0, 7, 1);
            mean(x, 3, 7, 7, 1);
            mean(x, 3, 8, 11, 1);
        });
        Edge.of(26, "Likewise, the mean of OWED behind them", "OWES is 99 at most", () -> {
            LoseLeague x = Check.told("plain 5;plain 3;plain 1;plain 1;plain 1;game 0 1;");
            for (int t = 0; t < 5; t++) {
                x.alter(t, 3, 99);
            }
            mean(x, 1, 8, 495, 1);
            mean(x, 10, 8, 495, 1);
            mean(x, 0, 0, 495, 1);
            x.alter(4, 3, 98);
            mean(x, 3, 1, 495, 1);
        });
        Edge.of(26, "Likewise, the mean of OWED behind them", "a numerator that an int does not hold", () -> {
            LoseLeague x = Check.told("plain 5;plain 3;plain 1;plain 1;plain 1;game 0 1;");
            for (int t = 2; t < 5; t++) {
                x.alter(t, 3, 90);
            }
            // the three come to 98 each; 0 and 1 OWE 15 and, if all eight are wet, 1 more
            mean(x, 1, 8, 30900000001L, 100000000);
        });
        Edge.of(26, "Likewise, the mean of OWED behind them", "no FIXTURES, no TOWNS", () -> {
            LoseLeague x = Check.told("plain 5;plain 3;");
            x.alter(1, 3, 4);
            mean(x, 7, 8, 4, 1);
            mean(new LoseLeague(), 7, 8, 0, 1);
        });
    }

    private static void meanBad() {
        LoseLeague x = Check.told(SHORT);
        Edge.of(26, "the mean of OWED behind them: 0, 1. BAD.", "v at both ends", () -> {
            Edge.taken("mean(#, 1, 0)", v -> x.mean(v, 1, 0), 0, 1, 9, 10);
            Edge.bad("mean(#, 1, 0)", v -> x.mean(v, 1, 0), -1, 11, Edge.MIN, Edge.MAX);
        });
        Edge.of(26, "the mean of OWED behind them: 0, 1. BAD.", "n at both ends", () -> {
            Edge.taken("mean(3, #, 0)", n -> x.mean(3, n, 0), 0, 1, 7, 8);
            Edge.bad("mean(3, #, 0)", n -> x.mean(3, n, 0), -1, 9, 31, 32, Edge.MIN, Edge.MAX);
        });
        Edge.of(26, "the mean of OWED behind them: 0, 1. BAD.", "what at both ends", () -> {
            Edge.taken("mean(3, 1, #)", what -> x.mean(3, 1, what), 0, 1);
            Edge.bad("mean(3, 1, #)", what -> x.mean(3, 1, what), -1, 2, Edge.MIN, Edge.MAX);
        });
        Edge.of(26, "Likewise, the mean of OWED behind them", "nothing is changed", () -> {
            String before = Check.state(x);
            x.mean(3, 8, 0);
            Check.same("behind mean()", Check.state(x), before);
        });
    }

    private static void fractions() {
        Edge.of(Edge.TERMS, NO_LOWER, "0 is 0 by 1, 1 is 1 by 1", () -> {
            LoseLeague x = Check.told(SHORT);
            luck(x, 4, 0, 8, 0, 1);
            luck(x, 0, 1, 8, 1, 1);
            mean(new LoseLeague(), 4, 8, 0, 1);
        });
        Edge.of(Edge.TERMS, NO_LOWER, "by 2, by 5, by 10, not at all", () -> {
            LoseLeague x = Check.told(SHORT);
            luck(x, 5, 1, 1, 1, 2);
            luck(x, 2, 1, 1, 4, 5);
            luck(x, 3, 1, 1, 7, 10);
            luck(x, 5, 1, 8, 255, 256);
            luck(x, 6, 1, 2, 16, 25);
            mean(x, 5, 1, 3, 2);
            mean(x, 4, 1, 7, 5);
            mean(x, 3, 2, 309, 100);
        });
    }
}
