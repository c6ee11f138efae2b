/** Promises 2 to 5: feed, end, text, fault. */
public final class TextTest {
    private static void feed() {
        LoseLeague x = new LoseLeague();
        Check.due("feed(-1)", x.feed(-1), -1);
        Check.due("feed(128)", x.feed(128), -1);
        Check.due("feed(MIN)", x.feed(Integer.MIN_VALUE), -1);
        Check.due("feed(MAX)", x.feed(Integer.MAX_VALUE), -1);
        Check.due("nothing came", x.count(2), 0);
        Check.due("feed(0)", x.feed(0), 1);
        Check.due("feed(127)", x.feed(127), 2);
        for (int i = 3; i <= 160; i++) {
            Check.due("feed, the " + i + ".", x.feed(' '), i);
        }
        Check.due("the 161st", x.feed(' '), -3);
        Check.due("BAD ahead of FULL", x.feed(128), -1);
        Check.due("still", x.count(2), 160);
    }

    private static void end() {
        LoseLeague x = new LoseLeague();
        Check.due("end(0) of nothing", x.end(0), 0);
        Check.due("end(1) of nothing", x.end(1), -1);
        Check.feed(x, "plain 7;x");
        Check.due("end(-1)", x.end(-1), -1);
        Check.due("end(10)", x.end(10), -1);
        Check.due("refused, nothing changed", x.count(2), 9);
        Check.due("end(9)", x.end(9), 9);
        Check.due("end(8)", x.end(8), 9);
        Check.due("left", x.count(2), 8);
        Check.due("the first ones stay", x.text(), 1);
        Check.due("as told", x.town(0, 1), 7);
        Check.feed(x, "!!!");
        Check.due("end(0)", x.end(0), 3);
        Check.due("feed comes behind what is left", Check.tell(x, "wise 3;"), 1);
        Check.due("not behind what was", x.town(0, 0), 2);
    }

    private static void taken(String text, int lines) {
        LoseLeague x = new LoseLeague();
        Check.due("'" + text + "'", Check.tell(x, text), lines);
        Check.due("fault() of '" + text + "'", x.fault(), 0);
        Check.due("the tape is empty", x.count(2), 0);
    }

    private static void refused(String text, int fault, int place) {
        LoseLeague x = Check.told("plain 3;wise 9;game 0 1;");
        x.weeks(5);
        x.see(0, 9);
        x.keep(1);
        String before = Check.state(x).replaceAll("fault=.*", "");
        Check.due("'" + text + "'", Check.tell(x, text), -10 - place);
        Check.due("fault() of '" + text + "'", x.fault(), fault);
        Check.same("what was told stays", Check.state(x).replaceAll("fault=.*", ""), before);
        Check.due("images stay", x.back(1), 5);
    }

    private static void textsTaken() {
        taken("", 0);
        taken("    ", 0);
        taken("plain 0;", 1);
        taken("plain20;", 1);
        taken("  careless   05 ;  ", 1);
        taken("game 0 1;plain 1;plain 2;", 3);
        taken("plain1;plain2;game0 1;game1 00;", 4);
        taken("plain1;proud2;wise3;careless4;plain5;", 5);
        String games = "game4 3;game4 3;game4 3;game4 3;game4 3;game4 3;game4 3;game4 3;game4 3;game4 3;";
        taken("plain1;proud2;wise3;careless4;plain5;" + games, 15);
    }

    private static void textsRefused() {
        // 1: no token; a number too long
        refused("!", 1, 0);
        refused("  !", 1, 2);
        refused("Plain 1;", 1, 0);
        refused("plain 1;\u0000", 1, 8);
        refused("plain 1;\t", 1, 8);
        refused("plain 123;", 1, 6);
        refused("plain 001;", 1, 6);
        refused("123;", 1, 0);
        refused("plain 123 !", 1, 6);
        refused("plain 1 123 !", 1, 8);
        refused("game 0 123 !", 1, 7);
        refused("plain -1;", 1, 6);
        refused("plain 1:", 1, 7);
        refused("plain 1/", 1, 7);
        refused("plain `1;", 1, 6);
        refused("plain {1;", 1, 6);
        // 2: a token that can not stand there
        refused("dog 999;", 2, 0);
        refused("plainx 1;", 2, 0);
        refused("plai 1;", 2, 0);
        refused("xlain 1;", 2, 0);
        refused("plaim 1;", 2, 0);
        refused("a", 2, 0);
        refused("z", 2, 0);
        refused("plain 1;;", 2, 8);
        refused("; plain 1;", 2, 0);
        refused("12;", 2, 0);
        refused("plain;", 2, 5);
        refused("plain wise 1;", 2, 6);
        refused("plain 1 2;", 2, 8);
        refused("plain 1 plain 2;", 2, 8);
        refused("game 0;", 2, 6);
        refused("game 01;", 2, 7);
        refused("game 0 1 2;", 2, 9);
        // ... the end: the length
        refused("game", 2, 4);
        refused("plain  ", 2, 7);
        refused("plain 1", 2, 7);
        refused("plain 1   ", 2, 10);
        refused("plain 1;game 0 1", 2, 16);
        refused("plain 1;game 0 ", 2, 15);
        // 3: out of bounds
        refused("plain 21;", 3, 6);
        refused("plain 99 !", 3, 6);
        refused("game 5 5;", 3, 5);
        refused("game 0 5;", 3, 7);
        refused("game 0 00 !", 3, 7);
        refused("game 4 4;", 3, 7);
        // 5: too many, at the name, ahead of what comes behind it
        refused("plain1;plain1;plain1;plain1;plain1;wise!", 5, 35);
        refused("plain1;plain1;plain1;plain1;plain1;  wise 21;", 5, 37);
        String games = "game0 1;game0 1;game0 1;game0 1;game0 1;game0 1;game0 1;game0 1;game0 1;game0 1;";
        refused(games + "game!", 5, 80);
        refused(games + "plain 1;", 6, 88);
        String all = "plain1;plain1;plain1;plain1;plain1;" + games;
        refused(all + "game 0 1;", 5, 115);
        refused(all + " plain 1;", 5, 116);
        refused(all + "dog", 2, 115);
        refused(all + "!", 1, 115);
        // 6: behind all, the length
        refused("game 0 1;", 6, 9);
        refused("plain 1;game 1 0;  ", 6, 19);
        refused("game 0 4;plain 1;plain 1;plain 1;plain 1;", 6, 41);
        refused("game 0 4;plain 1;!", 1, 17);
    }

    private static void tellsAll() {
        LoseLeague x = Check.told("plain 3;wise 9;proud 1;game 0 1;game 1 2;");
        x.weeks(7);
        x.alter(0, 2, 5);
        x.alter(0, 3, 6);
        x.runs(0, 0);
        x.see(0, 9);
        x.keep(0);
        x.keep(1);
        x.sheet(0, 2, 6);
        x.lay(0, 1, 1);
        x.read(0, 2, 6, 1);
        Check.due("text", Check.tell(x, "careless 4;proud 8;game 1 0;"), 3);
        int[][] towns = {{3, 4, 0, 0, 0}, {1, 8, 0, 0, 11}, {-1, -1, -1, -1, -1}};
        for (int t = 0; t < 3; t++) {
            for (int what = 0; what <= 4; what++) {
                Check.due("town(" + t + ", " + what + ")", x.town(t, what), towns[t][what]);
            }
        }
        int[] rules = {2, 1, 0, 0, 0, 0};
        for (int what = 0; what <= 5; what++) {
            Check.due("rule(" + what + ")", x.rule(what), rules[what]);
        }
        Check.due("fixture(0, 0)", x.fixture(0, 0), 1);
        Check.due("fixture(0, 1)", x.fixture(0, 1), 0);
        Check.due("fixture(1, 0)", x.fixture(1, 0), -1);
        Check.due("nothing is seen", x.count(0), 0);
        Check.due("no images", x.count(1), 0);
        Check.due("back(0)", x.back(0), -2);
        Check.due("sheets stay", x.count(3), 6);
        Check.due("torn stays", x.torn(), 2);
        Check.due("sheets stay, their cells too", x.read(0, 2, 0, 1), 1);
        Check.due("the empty text", x.text(), 0);
        Check.due("tells that there is nothing", x.rule(0) + x.rule(1), 0);
    }

    private static void faultOfTheLatest() {
        LoseLeague x = new LoseLeague();
        Check.due("at first", x.fault(), 0);
        Check.tell(x, "dog");
        Check.due("behind a fault", x.fault(), 2);
        Check.due("the tape is empty also by a fault", x.count(2), 0);
        x.feed('!');
        Check.due("feeding leaves it", x.fault(), 2);
        x.text();
        Check.due("the latest", x.fault(), 1);
        x.text();
        Check.due("one that was taken", x.fault(), 0);
    }

    public static void main(String[] args) {
        feed();
        end();
        textsTaken();
        textsRefused();
        tellsAll();
        faultOfTheLatest();
        Check.finish("TextTest");
    }
}
