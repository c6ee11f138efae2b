/** Promises 6 to 13 and 39: what there is, what is changed, how many. */
public final class StateTest {
    private static final String FOUR = "plain 9;proud 6;wise 17;careless 20;game 0 1;game 2 3;game 1 2;";

    private static void rule() {
        LoseLeague x = Check.told(FOUR);
        x.alter(0, 2, 1);
        x.alter(3, 2, 99);
        x.alter(1, 3, 40);
        x.alter(2, 3, 2);
        x.weeks(1);
        // week 0: both play 9, a draw
        int[] rules = {4, 3, 1, 1, 9, 42};
        for (int what = 0; what <= 5; what++) {
            Check.due("rule(" + what + ")", x.rule(what), rules[what]);
        }
        Check.due("rule(-1)", x.rule(-1), -1);
        Check.due("rule(6)", x.rule(6), -1);
        x.weeks(4);
        Check.due("the week leaves 2 by three", x.rule(3), 2);
        x.strike(0);
        Check.due("no fixtures", x.rule(3), -4);
        Check.due("no towns", new LoseLeague().rule(4), 0);
    }

    private static void plays(String kind, int strength, int losses, int want) {
        LoseLeague x = Check.told(kind + " " + strength + ";");
        x.alter(0, 2, losses);
        Check.due(kind + " of " + strength + ", losses " + losses + ", plays", x.town(0, 4), want);
    }

    private static void town() {
        LoseLeague x = Check.told(FOUR);
        x.alter(2, 2, 7);
        x.alter(2, 3, 8);
        int[] wise = {2, 17, 7, 8, 17};
        for (int what = 0; what <= 4; what++) {
            Check.due("town(2, " + what + ")", x.town(2, what), wise[what]);
        }
        Check.due("town(4, 0)", x.town(4, 0), -1);
        Check.due("town(-1, 0)", x.town(-1, 0), -1);
        Check.due("town(0, 5)", x.town(0, 5), -1);
        Check.due("town(0, -1)", x.town(0, -1), -1);
        plays("plain", 0, 0, 0);
        plays("plain", 20, 3, 20);
        plays("proud", 0, 0, 3);
        plays("proud", 20, 1, 23);
        plays("wise", 0, 0, 0);
        plays("wise", 1, 0, 0);
        plays("wise", 7, 0, 3);
        plays("wise", 7, 1, 7);
        plays("wise", 20, 0, 10);
        plays("wise", 20, 99, 20);
        plays("careless", 0, 0, 0);
        plays("careless", 3, 0, 0);
        plays("careless", 5, 0, 0);
        plays("careless", 6, 0, 1);
        plays("careless", 20, 0, 8);
        plays("careless", 1, 1, 0);
        plays("careless", 2, 1, 0);
        plays("careless", 9, 2, 7);
    }

    private static void fixture() {
        LoseLeague x = Check.told(FOUR);
        int[] firsts = {0, 2, 1};
        int[] seconds = {1, 3, 2};
        for (int i = 0; i < 3; i++) {
            Check.due("fixture(" + i + ", 0)", x.fixture(i, 0), firsts[i]);
            Check.due("fixture(" + i + ", 1)", x.fixture(i, 1), seconds[i]);
        }
        Check.due("fixture(3, 0)", x.fixture(3, 0), -1);
        Check.due("fixture(-1, 0)", x.fixture(-1, 0), -1);
        Check.due("fixture(0, 2)", x.fixture(0, 2), -1);
        Check.due("fixture(0, -1)", x.fixture(0, -1), -1);
    }

    private static void game() {
        LoseLeague x = Check.told(FOUR);
        // they play 9, 9, 8, 8
        Check.due("game(0, 1)", x.game(0, 1), -4);
        Check.due("game(0, 2)", x.game(0, 2), 2);
        Check.due("game(2, 0)", x.game(2, 0), 2);
        Check.due("game(3, 1)", x.game(3, 1), 3);
        Check.due("game(2, 3)", x.game(2, 3), -4);
        x.alter(2, 2, 1);
        Check.due("a wise one that has lost", x.game(0, 2), 0);
        Check.due("game(1, 1)", x.game(1, 1), -1);
        Check.due("game(0, 4)", x.game(0, 4), -1);
        Check.due("game(4, 0)", x.game(4, 0), -1);
        Check.due("game(-1, 0)", x.game(-1, 0), -1);
        Check.due("game(0, -1)", x.game(0, -1), -1);
        Check.due("it is only asked", x.town(0, 1), 9);
    }

    private static void alter() {
        LoseLeague x = Check.told(FOUR);
        int[] most = {3, 20, 99, 99};
        int[] was = {1, 6, 0, 0};
        for (int what = 0; what <= 3; what++) {
            Check.due("alter(1, " + what + ", -1)", x.alter(1, what, -1), -1);
            Check.due("alter(1, " + what + ", most + 1)", x.alter(1, what, most[what] + 1), -1);
            Check.due("alter(1, " + what + ", MIN)", x.alter(1, what, Integer.MIN_VALUE), -1);
            Check.due("alter(1, " + what + ", most)", x.alter(1, what, most[what]), was[what]);
            Check.due("it is", x.town(1, what), most[what]);
            Check.due("alter(1, " + what + ", 0)", x.alter(1, what, 0), most[what]);
            Check.due("it is", x.town(1, what), 0);
        }
        Check.due("alter(1, 4, 0)", x.alter(1, 4, 0), -1);
        Check.due("alter(1, -1, 0)", x.alter(1, -1, 0), -1);
        Check.due("alter(4, 1, 0)", x.alter(4, 1, 0), -1);
        Check.due("alter(-1, 1, 0)", x.alter(-1, 1, 0), -1);
        Check.due("another one stays", x.town(0, 1) * 100 + x.town(2, 1), 917);
    }

    private static void lend() {
        LoseLeague x = Check.told(FOUR);
        Check.due("lend(0, 1, 4)", x.lend(0, 1, 4), 5);
        Check.due("it has left", x.town(0, 1), 5);
        Check.due("the other one has", x.town(1, 1), 10);
        Check.due("lend(0, 1, 6)", x.lend(0, 1, 6), -2);
        Check.due("STATE ahead of FULL", x.lend(0, 3, 6), -2);
        Check.due("lend(0, 3, 1)", x.lend(0, 3, 1), -3);
        Check.due("lend(0, 3, 0)", x.lend(0, 3, 0), 5);
        Check.due("lend(1, 2, 4)", x.lend(1, 2, 4), -3);
        Check.due("lend(1, 2, 3)", x.lend(1, 2, 3), 7);
        Check.due("lend(0, 1, 5)", x.lend(0, 1, 5), 0);
        Check.due("lend(3, 0, 20)", x.lend(3, 0, 20), 0);
        Check.due("lend(0, 3, 21)", x.lend(0, 3, 21), -1);
        Check.due("lend(0, 3, -1)", x.lend(0, 3, -1), -1);
        Check.due("lend(0, 0, 0)", x.lend(0, 0, 0), -1);
        Check.due("lend(4, 0, 0)", x.lend(4, 0, 0), -1);
        Check.due("lend(0, 4, 0)", x.lend(0, 4, 0), -1);
        Check.due("lend(-1, 0, 0)", x.lend(-1, 0, 0), -1);
        Check.due("lend(0, -1, 0)", x.lend(0, -1, 0), -1);
        int[] strengths = {20, 12, 20, 0};
        for (int t = 0; t < 4; t++) {
            Check.due("strength in the end of " + t, x.town(t, 1), strengths[t]);
        }
    }

    private static void bookAndStrike() {
        LoseLeague x = Check.told(FOUR);
        Check.due("book(3, 1)", x.book(3, 1), 4);
        Check.due("its first", x.fixture(3, 0), 3);
        Check.due("its second", x.fixture(3, 1), 1);
        Check.due("book(1, 1)", x.book(1, 1), -1);
        Check.due("book(4, 1)", x.book(4, 1), -1);
        Check.due("book(1, 4)", x.book(1, 4), -1);
        Check.due("book(-1, 1)", x.book(-1, 1), -1);
        Check.due("book(1, -1)", x.book(1, -1), -1);
        for (int n = 5; n <= 10; n++) {
            Check.due("book, the " + n + ".", x.book(0, 3), n);
        }
        Check.due("the 11th", x.book(0, 3), -3);
        Check.due("BAD ahead of FULL", x.book(3, 3), -1);
        Check.due("strike(11)", x.strike(11), -1);
        Check.due("strike(-1)", x.strike(-1), -1);
        Check.due("strike(10)", x.strike(10), 10);
        Check.due("strike(4)", x.strike(4), 10);
        Check.due("they are", x.rule(1), 4);
        Check.due("the first ones stay", x.fixture(3, 0), 3);
        Check.due("strike(5)", x.strike(5), -1);
        Check.due("strike(0)", x.strike(0), 4);
        Check.due("strike(0) again", x.strike(0), 0);
        Check.due("book behind it", x.book(2, 0), 1);
        x.weeks(5);
        x.strike(0);
        Check.due("the week stays", x.rule(2), 5);
    }

    private static void theFifth() {
        LoseLeague x = Check.told("plain 9;proud 6;wise 17;careless 20;plain 4;");
        Check.due("alter(4, 1, 7)", x.alter(4, 1, 7), 4);
        Check.due("alter(4, 2, 1)", x.alter(4, 2, 1), 0);
        Check.due("alter(4, 3, 2)", x.alter(4, 3, 2), 0);
        Check.due("town(4, 1)", x.town(4, 1), 7);
        Check.due("rule(4)", x.rule(4), 16);
        Check.due("rule(5)", x.rule(5), 2);
        Check.due("lend(4, 0, 7)", x.lend(4, 0, 7), 0);
        Check.due("book(0, 4)", x.book(0, 4), 1);
        Check.due("game(0, 4)", x.game(0, 4), 4);
        Check.due("town(5, 1)", x.town(5, 1), -1);
        Check.due("strength of all", x.count(4), 59);
    }

    private static void count() {
        LoseLeague x = Check.told(FOUR);
        x.see(1, 9);
        x.see(1, 9);
        x.keep(1);
        Check.feed(x, "abc");
        x.alter(0, 2, 50);
        x.alter(3, 2, 60);
        int[] counts = {2, 1, 3, -4, 52, 110};
        for (int what = 0; what <= 5; what++) {
            Check.due("count(" + what + ")", x.count(what), counts[what]);
        }
        x.keep(0);
        Check.due("two images", x.count(1), 2);
        x.sheet(1, 0, 7);
        Check.due("sheet 0 alone counts", x.count(3), -4);
        x.sheet(0, 1, 0);
        Check.due("no cells", x.count(3), 0);
        x.sheet(0, 2, 40);
        Check.due("40 cells", x.count(3), 40);
        Check.due("count(6)", x.count(6), -1);
        Check.due("count(-1)", x.count(-1), -1);
    }

    public static void main(String[] args) {
        rule();
        town();
        fixture();
        game();
        alter();
        lend();
        bookAndStrike();
        theFifth();
        count();
        Check.finish("StateTest");
    }
}
