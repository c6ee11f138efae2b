/** Promises 19 to 24: order, loan, swap, skip, most, kind. */
public final class BestTest {
    /** As it is 0 and 1 draw, then 0 loses; the other way round 0 loses, has trained, and then 1 loses. */
    private static final String BETTER_TURNED = "plain 5;plain 5;plain 9;game 0 1;game 0 2;";

    private static void row(LoseLeague x, int owed, int... places) {
        Check.due("order(0)", x.order(0), owed);
        for (int i = 0; i < 5; i++) {
            Check.due("order(" + (10 + i) + ")", x.order(10 + i), i < places.length ? places[i] : -4);
        }
    }

    private static void order() {
        LoseLeague x = Check.told(BETTER_TURNED);
        row(x, 1, 1, 0);
        Check.due("nothing is changed", x.fixture(0, 1) * 10 + x.rule(2), 10);
        x.alter(2, 3, 7);
        row(x, 8, 1, 0);
        row(Check.told("plain 5;plain 3;game 0 1;game 1 0;game 0 1;"), 1, 0, 1, 2);
        row(Check.told("plain 5;plain 3;game 0 1;"), 1, 0);
        row(Check.told("plain 9;proud 6;wise 17;careless 20;game 0 1;game 2 3;game 1 2;game 3 0;game 0 2;"), 0, 0, 3, 1, 2, 4);
    }

    /** Every order of five is told, played and compared by itself. */
    private static void orderOfFive(String towns, String... games) {
        LoseLeague x = Check.told(towns + String.join("", games));
        int least = Integer.MAX_VALUE;
        int[] row = null;
        for (int code = 0; code < 100000; code++) {
            int[] places = {code / 10000, code / 1000 % 10, code / 100 % 10, code / 10 % 10, code % 10};
            int used = 0;
            StringBuilder text = new StringBuilder(towns);
            for (int i : places) {
                used |= 1 << i;
                text.append(i < 5 ? games[i] : "");
            }
            if (used != 31) {
                continue;
            }
            LoseLeague y = Check.told(text.toString());
            y.weeks(5);
            if (y.rule(5) < least) {
                least = y.rule(5);
                row = places;
            }
        }
        row(x, least, row);
    }

    private static void ordersOfFive() {
        // 0 must play 2 ahead of 1; all else is a draw
        row(Check.told("plain 5;plain 5;plain 9;plain 1;plain 1;game 0 1;game 3 4;game 3 4;game 3 4;game 0 2;"), 3, 1, 2, 3, 4, 0);
        orderOfFive("plain 5;plain 5;plain 9;plain 1;plain 1;", "game 0 1;", "game 3 4;", "game 3 4;", "game 3 4;", "game 0 2;");
        orderOfFive("plain 9;proud 6;wise 17;careless 20;", "game 0 1;", "game 2 3;", "game 1 2;", "game 3 0;", "game 0 2;");
        orderOfFive("plain 5;plain 5;plain 9;", "game 0 1;", "game 0 1;", "game 0 1;", "game 0 1;", "game 0 2;");
        orderOfFive("plain 5;plain 5;plain 6;plain 7;plain 9;", "game 0 1;", "game 1 2;", "game 2 3;", "game 3 4;", "game 4 0;");
        orderOfFive("wise 9;wise 8;careless 12;proud 1;plain 4;", "game 0 3;", "game 4 3;", "game 2 1;", "game 3 2;", "game 1 0;");
        orderOfFive("proud 2;wise 10;plain 5;plain 5;proud 2;", "game 2 3;", "game 0 4;", "game 2 0;", "game 1 2;", "game 3 1;");
    }

    private static void orderLater() {
        LoseLeague x = Check.told("plain 5;plain 5;plain 9;");
        x.alter(0, 3, 6);
        row(x, 6);
        x.weeks(1);
        row(x, 6);
        x.weeks(1);
        x.book(0, 1);
        x.book(0, 2);
        row(x, 7, 1, 0);
        x.weeks(1);
        Check.due("within a year", x.order(0), -2);
        Check.due("within a year", x.order(14), -2);
        Check.due("BAD ahead of STATE", x.order(15), -1);
        x.book(0, 1);
        Check.due("week 3 of three", x.order(0) >= 0 ? 1 : 0, 1);
    }

    private static void orderRefused() {
        LoseLeague x = Check.told(BETTER_TURNED);
        for (int what : new int[] {-1, 1, 9, 15, -10, Integer.MIN_VALUE, Integer.MAX_VALUE}) {
            Check.due("order(" + what + ")", x.order(what), -1);
        }
        x.book(0, 1);
        x.book(0, 1);
        x.book(0, 1);
        Check.due("five", x.order(0) >= 0 ? 1 : 0, 1);
        x.book(0, 1);
        Check.due("six", x.order(0), -2);
        Check.due("six", x.order(10), -2);
        Check.due("BAD ahead of STATE", x.order(1), -1);
    }

    private static void best(String call, int choice, int owed, int gotChoice, int gotOwed) {
        Check.due(call + ", 0", gotChoice, choice);
        Check.due(call + ", 1", gotOwed, owed);
    }

    private static void loan() {
        LoseLeague x = Check.told("plain 5;plain 5;game 0 1;");
        best("loan: each to the other is as good", 1, 1, x.loan(1, 0), x.loan(1, 1));
        best("loan of no weeks", -4, -4, x.loan(0, 0), x.loan(0, 1));
        Check.due("nothing is changed", x.town(0, 1) + x.town(1, 1) + x.rule(2), 10);
        x.alter(1, 3, 30);
        best("what is owed already counts", 1, 31, x.loan(1, 0), x.loan(1, 1));
        x = Check.told("plain 5;plain 3;game 0 1;");
        best("loan: not less than as it is", -4, -4, x.loan(1, 0), x.loan(1, 1));
        x = Check.told("plain 0;plain 0;game 0 1;");
        best("loan: nobody has any", -4, -4, x.loan(1, 0), x.loan(1, 1));
        x = Check.told("plain 20;plain 20;game 0 1;");
        best("loan: nobody may have more", -4, -4, x.loan(1, 0), x.loan(1, 1));
        x = Check.told("proud 0;plain 3;game 0 1;");
        best("loan: the first has none", 10, 1, x.loan(1, 0), x.loan(1, 1));
        x = Check.told("plain 1;plain 1;game 0 1;");
        best("loan of all that there is", 1, 1, x.loan(1, 0), x.loan(1, 1));
        x = Check.told("plain 5;plain 5;plain 0;plain 20;plain 0;game 0 1;game 2 4;");
        x.alter(3, 2, 1);
        // 0 to 1 makes 0 lose; 0 to 2 makes 4 lose as well
        best("loan that serves twice", 2, 2, x.loan(2, 0), x.loan(2, 1));
        x = Check.told("plain 9;plain 5;plain 0;plain 0;plain 20;game 2 3;");
        best("loan: 0 to 2 is the least that makes one lose", 2, 4, x.loan(1, 0), x.loan(1, 1));
        x = Check.told("plain 20;plain 20;plain 20;plain 20;plain 19;game 2 3;");
        best("loan: 2 to the fifth", 24, 4, x.loan(1, 0), x.loan(1, 1));
        x = Check.told("");
        best("loan without towns", -4, -4, x.loan(60, 0), x.loan(60, 1));
        Check.due("loan(61, 0)", x.loan(61, 0), -1);
        Check.due("loan(-1, 0)", x.loan(-1, 0), -1);
        Check.due("loan(0, 2)", x.loan(0, 2), -1);
        Check.due("loan(0, -1)", x.loan(0, -1), -1);
    }

    private static void swap() {
        LoseLeague x = Check.told(BETTER_TURNED);
        best("swap", 1, 1, x.swap(2, 0), x.swap(2, 1));
        best("swap: the year is not over yet", -4, -4, x.swap(1, 0), x.swap(1, 1));
        Check.due("nothing is changed", x.fixture(0, 1), 1);
        x = Check.told("plain 5;plain 5;plain 9;game 0 1;game 0 1;game 0 2;");
        best("swap: of several the least", 2, 1, x.swap(3, 0), x.swap(3, 1));
        x = Check.told("plain 5;plain 5;plain 9;game 0 2;game 0 1;");
        best("swap: it is best as it is", -4, -4, x.swap(2, 0), x.swap(2, 1));
        x = Check.told("plain 5;plain 5;plain 9;plain 1;plain 3;game 3 4;game 0 1;game 0 2;game 3 4;");
        // as it is 1, 2, 4 owe; 0 must play 2 ahead of 1
        best("swap: 0 and 2, ahead of 1 and 2", 2, 2, x.swap(4, 0), x.swap(4, 1));
        x.weeks(1);
        best("swap: fixture 0 is played already", 12, 2, x.swap(3, 0), x.swap(3, 1));
        x = Check.told("plain 5;plain 5;game 0 1;");
        best("swap of one", -4, -4, x.swap(60, 0), x.swap(60, 1));
        x = Check.told("plain 5;plain 5;plain 9;plain 1;plain 1;game3 4;game3 4;game3 4;game3 4;game3 4;game3 4;game3 4;game3 4;game0 1;game0 2;");
        // 2, 3, 4 owe; to change 8 and 9 would be as good, and is greater
        best("swap of ten", 9, 3, x.swap(10, 0), x.swap(10, 1));
        Check.due("swap(61, 0)", x.swap(61, 0), -1);
        Check.due("swap(-1, 0)", x.swap(-1, 0), -1);
        Check.due("swap(0, 2)", x.swap(0, 2), -1);
        Check.due("swap(0, -1)", x.swap(0, -1), -1);
    }

    private static void skip() {
        // as it is 2 loses twice, 0 and 1 draw; without the first game 1 loses to 0
        LoseLeague x = Check.told("plain 6;plain 5;plain 1;game 0 2;game 0 1;game 1 2;");
        best("skip", 0, 1, x.skip(3, 0), x.skip(3, 1));
        best("skip: the year is not over yet", -4, -4, x.skip(2, 0), x.skip(2, 1));
        best("skip: the second year is not over yet", 0, 1, x.skip(5, 0), x.skip(5, 1));
        Check.due("nothing is changed", x.rule(1) * 10 + x.rule(2), 30);
        x.weeks(1);
        best("skip: it is too late", -4, -4, x.skip(2, 0), x.skip(2, 1));
        x = Check.told("plain 6;plain 5;plain 1;game 0 2;game 0 2;game 1 2;game 0 1;");
        // without either of the first two 0 plays 5 by 4 in the end
        best("skip: of several the first", 0, 1, x.skip(4, 0), x.skip(4, 1));
        x = Check.told("plain 6;plain 5;");
        best("skip without fixtures", -4, -4, x.skip(60, 0), x.skip(60, 1));
        Check.due("skip(61, 0)", x.skip(61, 0), -1);
        Check.due("skip(-1, 0)", x.skip(-1, 0), -1);
        Check.due("skip(0, 2)", x.skip(0, 2), -1);
        Check.due("skip(0, -1)", x.skip(0, -1), -1);
    }

    private static void most() {
        LoseLeague x = Check.told("plain 5;plain 3;game 0 1;");
        Check.due("most(0, 1): 2 by 3", x.most(0, 1), 2);
        Check.due("most(1, 1)", x.most(1, 1), 4);
        Check.due("most(1, 2): 6, 0 trained to 6", x.most(1, 2), 6);
        Check.due("most(0, 0)", x.most(0, 0), -4);
        Check.due("nothing is changed", x.town(0, 1), 5);
        x = Check.told("plain 20;proud 0;plain 1;plain 1;game 0 1;game 2 3;game 2 3;game 2 3;game 2 3;game 2 3;game 2 3;game 2 3;game 2 3;game 2 3;");
        Check.due("most(0, 60)", x.most(0, 60), 17);
        Check.due("most(0, 51)", x.most(0, 51), 17);
        Check.due("most(0, 50)", x.most(0, 50), 14);
        Check.due("most(2, 1)", x.most(2, 1), -4);
        x = Check.told("plain 5;plain 1;game 0 1;");
        Check.due("the least of all", x.most(0, 1), 0);
        x = Check.told("careless 3;wise 20;game 0 1;");
        Check.due("the greatest of all", x.most(0, 1), 20);
        x = Check.told("plain 5;careless 5;game 0 1;");
        Check.due("by none: 0 by 0 is a draw", x.most(0, 1), -4);
        Check.due("most(2, 1)", x.most(2, 1), -1);
        Check.due("most(-1, 1)", x.most(-1, 1), -1);
        Check.due("most(0, 61)", x.most(0, 61), -1);
        Check.due("most(0, -1)", x.most(0, -1), -1);
    }

    private static void kind() {
        LoseLeague x = Check.told("plain 5;plain 5;game 0 1;");
        best("kind: proud, wise, careless are as good", 1, 1, x.kind(0, 1, 0), x.kind(0, 1, 1));
        best("kind of no weeks", 0, 0, x.kind(0, 0, 0), x.kind(0, 0, 1));
        Check.due("nothing is changed", x.town(0, 0), 0);
        x = Check.told("plain 5;plain 8;game 0 1;");
        // plain 5 loses to 8; it need not be less than as it is
        best("kind: as it is", 0, 1, x.kind(0, 1, 0), x.kind(0, 1, 1));
        x = Check.told("plain 6;plain 5;game 0 1;game 0 1;");
        x.alter(1, 2, 1);
        x.alter(1, 3, 9);
        x.weeks(1);
        x.alter(0, 1, 6);
        x.alter(1, 1, 5);
        // wise and careless lose to 1, who has lost before
        best("kind", 2, 9, x.kind(0, 1, 0), x.kind(0, 1, 1));
        Check.due("kind(2, 0, 0)", x.kind(2, 0, 0), -1);
        Check.due("kind(-1, 0, 0)", x.kind(-1, 0, 0), -1);
        Check.due("kind(0, 61, 0)", x.kind(0, 61, 0), -1);
        Check.due("kind(0, -1, 0)", x.kind(0, -1, 0), -1);
        Check.due("kind(0, 0, 2)", x.kind(0, 0, 2), -1);
        Check.due("kind(0, 0, -1)", x.kind(0, 0, -1), -1);
    }

    public static void main(String[] args) {
        order();
        ordersOfFive();
        orderLater();
        orderRefused();
        loan();
        swap();
        skip();
        most();
        kind();
        Check.finish("BestTest");
    }
}
