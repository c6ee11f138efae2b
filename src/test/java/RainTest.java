/** Promises 25 and 26: luck, mean. */
public final class RainTest {
    private static void fraction(String call, long numerator, long denominator, long got0, long got1) {
        Check.due(call + ", 0", got0, numerator);
        Check.due(call + ", 1", got1, denominator);
    }

    private static void luck(LoseLeague x, int v, int t, int n, long numerator, long denominator) {
        String call = "luck(" + v + ", " + t + ", " + n;
        fraction(call, numerator, denominator, x.luck(v, t, n, 0), x.luck(v, t, n, 1));
    }

    private static void mean(LoseLeague x, int v, int n, long numerator, long denominator) {
        String call = "mean(" + v + ", " + n;
        fraction(call, numerator, denominator, x.mean(v, n, 0), x.mean(v, n, 1));
    }

    private static void luck() {
        // 1 loses the first game that is played, then they draw
        LoseLeague x = Check.told("plain 5;plain 3;game 0 1;");
        luck(x, 3, 1, 0, 0, 1);
        luck(x, 3, 1, 1, 7, 10);
        luck(x, 3, 1, 2, 91, 100);
        luck(x, 5, 1, 2, 3, 4);
        luck(x, 4, 1, 1, 3, 5);
        luck(x, 0, 1, 1, 1, 1);
        luck(x, 10, 1, 8, 0, 1);
        luck(x, 1, 1, 8, 99999999, 100000000);
        luck(x, 3, 0, 8, 0, 1);
        Check.due("nothing is changed", x.rule(2), 0);
        // 1 loses the first that is played, 0 the second (5 by 7), then they draw (6 by 6)
        x = Check.told("plain 6;proud 2;game 0 1;game 1 0;game 0 1;");
        luck(x, 5, 0, 1, 0, 1);
        luck(x, 5, 0, 2, 1, 4);
        luck(x, 5, 0, 3, 1, 2);
        luck(x, 2, 0, 3, 112, 125);
        x.weeks(1);
        luck(x, 9, 0, 1, 1, 10);
        luck(x, 3, 1, 8, 0, 1);
        luck(Check.told("plain 3;"), 3, 0, 8, 0, 1);
    }

    private static void luckRefused() {
        LoseLeague x = Check.told("plain 5;plain 3;game 0 1;");
        Check.due("luck(-1, 0, 1, 0)", x.luck(-1, 0, 1, 0), -1);
        Check.due("luck(11, 0, 1, 0)", x.luck(11, 0, 1, 0), -1);
        Check.due("luck(3, -1, 1, 0)", x.luck(3, -1, 1, 0), -1);
        Check.due("luck(3, 2, 1, 0)", x.luck(3, 2, 1, 0), -1);
        Check.due("luck(3, -4, 1, 0)", x.luck(3, -4, 1, 0), -1);
        Check.due("luck(3, 0, -1, 0)", x.luck(3, 0, -1, 0), -1);
        Check.due("luck(3, 0, 9, 0)", x.luck(3, 0, 9, 0), -1);
        Check.due("luck(3, 0, 1, -1)", x.luck(3, 0, 1, -1), -1);
        Check.due("luck(3, 0, 1, 2)", x.luck(3, 0, 1, 2), -1);
    }

    private static void mean() {
        // a year a week: wet, both owe; dry, 0 owes; then they draw, both owe
        LoseLeague x = Check.told("plain 5;plain 3;game 0 1;");
        mean(x, 3, 0, 0, 1);
        mean(x, 3, 1, 13, 10);
        mean(x, 3, 2, 309, 100);
        mean(x, 5, 1, 3, 2);
        mean(x, 0, 1, 1, 1);
        mean(x, 0, 8, 15, 1);
        mean(x, 10, 8, 16, 1);
        mean(x, 1, 8, 1500000001, 100000000);
        x.alter(0, 3, 99);
        x.alter(1, 3, 99);
        mean(x, 1, 8, 198, 1);
        mean(x, 1, 0, 198, 1);
        Check.due("nothing is changed", x.rule(2), 0);
        x = Check.told("plain 3;plain 4;");
        x.alter(0, 3, 4);
        mean(x, 7, 8, 4, 1);
        mean(new LoseLeague(), 7, 8, 0, 1);
    }

    private static void meanRefused() {
        LoseLeague x = Check.told("plain 5;plain 3;game 0 1;");
        Check.due("mean(-1, 1, 0)", x.mean(-1, 1, 0), -1);
        Check.due("mean(11, 1, 0)", x.mean(11, 1, 0), -1);
        Check.due("mean(3, -1, 0)", x.mean(3, -1, 0), -1);
        Check.due("mean(3, 9, 0)", x.mean(3, 9, 0), -1);
        Check.due("mean(3, 1, -1)", x.mean(3, 1, -1), -1);
        Check.due("mean(3, 1, 2)", x.mean(3, 1, 2), -1);
    }

    public static void main(String[] args) {
        luck();
        luckRefused();
        mean();
        meanRefused();
        Check.finish("RainTest");
    }
}
