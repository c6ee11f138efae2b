/** Boundary cases of promises 33 to 39: keep, back, sheet, lay, read, torn, count; and of SHEETS. */
final class EdgesOfSheets {
    private static final int NULL = 1, INDEX = 2, CAST = 3;
    private static final String FIVE = "plain 9;proud 6;wise 17;careless 20;plain 4;";

    private EdgesOfSheets() {
    }

    static void all() {
        keep();
        back();
        sheet();
        lay();
        lowestBits();
        readNumbers();
        readPlaces();
        readMachine();
        readRefused();
        torn();
        count();
    }

    private static void keep() {
        String sentence = "IMAGE k (0, 1) is TOWNS, FIXTURES (all of them), WEEK: whether there was one (1, 0). BAD.";
        Edge.of(33, sentence, "k at both ends", () -> {
            LoseLeague x = Check.told(FIVE);
            Edge.bad("keep(#)", x::keep, -1, 2, Edge.MIN, Edge.MAX);
            Check.due("IMAGES", x.count(1), 0);
            Check.due("keep(0)", x.keep(0), 0);
            Check.due("keep(1)", x.keep(1), 0);
            Check.due("IMAGES", x.count(1), 2);
        });
        Edge.of(33, "whether there was one (1, 0)", "of that number, not of the other", () -> {
            LoseLeague x = Check.told(FIVE);
            Check.due("keep(1)", x.keep(1), 0);
            Check.due("keep(1)", x.keep(1), 1);
            Check.due("keep(0)", x.keep(0), 0);
            Check.due("keep(0)", x.keep(0), 1);
            Check.tell(x, "wise 1;");
            Check.due("gone by a text: keep(0)", x.keep(0), 0);
            Check.due("gone by a text: keep(1)", x.keep(1), 0);
        });
        Edge.of(33, "TOWNS, FIXTURES (all of them), WEEK", "five TOWNS, ten FIXTURES, WEEK 999", () -> {
            LoseLeague x = Check.told(FIVE + "game0 1;".repeat(9) + "game 4 3;");
            Edge.passWeeks(x, 999);
            for (int t = 0; t < 5; t++) {
                x.alter(t, 2, 90 + t);
                x.alter(t, 3, 95 + t);
            }
            String before = told(x);
            x.keep(1);
            for (int t = 0; t < 5; t++) {
                for (int what = 0; what <= 3; what++) {
                    x.alter(t, what, what == 0 ? (x.town(t, 0) + 1) % 4 : 0);
                }
            }
            x.strike(0);
            Check.due("back(1)", x.back(1), 999);
            Check.same("all of it", told(x), before);
        });
        Edge.of(33, "IMAGE k (0, 1) is TOWNS, FIXTURES (all of them), WEEK", "in place of the one that there was", () -> {
            LoseLeague x = Check.told("plain 5;plain 4;game 0 1;");
            x.keep(0);
            x.weeks(3);
            x.book(1, 0);
            Check.due("keep(0)", x.keep(0), 1);
            x.weeks(4);
            x.strike(0);
            Check.due("back(0)", x.back(0), 3);
            Check.due("FIXTURES", x.rule(1), 2);
            Check.due("STRENGTH", x.town(0, 1), 4);
        });
        Edge.of(33, "FIXTURES (all of them)", "none, too", () -> {
            LoseLeague x = Check.told(FIVE);
            x.keep(0);
            x.book(0, 1);
            x.book(1, 2);
            x.back(0);
            Check.due("rule(1)", x.rule(1), 0);
            LoseLeague none = new LoseLeague();
            none.keep(1);
            none.weeks(5);
            Check.due("of nothing: back(1)", none.back(1), 0);
            Check.due("WEEK", none.rule(2), 0);
        });
        Edge.of(33, "IMAGE k (0, 1) is", "what it was then: it does not go on with what is", () -> {
            LoseLeague x = Check.told("plain 5;plain 4;game 0 1;");
            x.keep(0);
            x.weeks(1);
            x.keep(1);
            x.weeks(1);
            Check.due("back(0)", x.back(0), 0);
            Check.due("STRENGTH", x.town(0, 1), 5);
            x.weeks(7);
            Check.due("back(1)", x.back(1), 1);
            Check.due("STRENGTH", x.town(0, 1), 4);
            x.alter(0, 1, 20);
            Check.due("back(1) again", x.back(1), 1);
            Check.due("STRENGTH", x.town(0, 1), 4);
            Check.due("back(0) again", x.back(0), 0);
        });
    }

    private static String told(LoseLeague x) {
        return Check.state(x).replaceAll("count[0123]=\\S+", "").replaceAll(",as seen \\S+", "");
    }

    private static void back() {
        Edge.of(34, "BAD; STATE: there is none.", "k at both ends; BAD comes first", () -> {
            LoseLeague x = Check.told(FIVE);
            Edge.bad("back(#)", x::back, -1, 2, Edge.MIN, Edge.MAX);
            x.keep(0);
            x.keep(1);
            Edge.bad("back(#)", x::back, -1, 2, Edge.MIN, Edge.MAX);
        });
        Edge.of(34, "STATE: there is none.", "that one, not the other", () -> {
            LoseLeague x = Check.told(FIVE);
            Check.due("back(0)", x.back(0), -2);
            Check.due("back(1)", x.back(1), -2);
            x.keep(1);
            Check.due("back(0)", x.back(0), -2);
            Check.due("back(1)", x.back(1), 0);
            LoseLeague y = Check.told(FIVE);
            y.keep(0);
            Check.due("back(0)", y.back(0), 0);
            Check.due("back(1)", y.back(1), -2);
        });
        Edge.of(34, "All is as IMAGE k: WEEK.", "the IMAGE stays", () -> {
            LoseLeague x = Check.told("plain 5;plain 4;game 0 1;");
            x.weeks(4);
            x.keep(0);
            for (int i = 0; i < 3; i++) {
                x.weeks(9);
                Check.due("back(0)", x.back(0), 4);
                Check.due("WEEK", x.rule(2), 4);
            }
            Check.due("IMAGES", x.count(1), 1);
        });
        Edge.of(34, "All is as IMAGE k: WEEK.", "what is none of it stays: SEEN, THE TAPE, SHEETS, the other IMAGE, FAULTS", () -> {
            LoseLeague x = Check.told("plain 5;plain 4;game 0 1;");
            x.keep(0);
            x.keep(1);
            Check.tell(x, "!");
            x.see(0, 9);
            x.sheet(0, 0, 7);
            x.read(0, 0, 6, 1);
            x.feed('a');
            Check.due("back(0)", x.back(0), 0);
            Check.due("SEEN", x.count(0), 1);
            Check.due("IMAGES", x.count(1), 2);
            Check.due("bytes", x.count(2), 1);
            Check.due("CELLS", x.count(3), 7);
            Check.due("fault()", x.fault(), 1);
            Check.due("torn()", x.torn(), INDEX);
        });
    }

    private static void sheet() {
        Edge.of(35, "A SHEET is a new row of CELLS 0: 1. BAD: also n above 40; -14 (SIZE): n below 0.", "k at both ends", () -> {
            LoseLeague x = new LoseLeague();
            for (int k = 0; k < 4; k++) {
                Check.due("sheet(" + k + ", 0, 1)", x.sheet(k, 0, 1), 1);
            }
            Edge.bad("sheet(#, 0, 1)", k -> x.sheet(k, 0, 1), -1, 4, Edge.MIN, Edge.MAX);
        });
        Edge.of(35, "A SHEET is a new row of CELLS 0: 1. BAD: also n above 40; -14 (SIZE): n below 0.", "lane at both ends", () -> {
            LoseLeague x = new LoseLeague();
            for (int lane = 0; lane < 3; lane++) {
                Check.due("sheet(0, " + lane + ", 1)", x.sheet(0, lane, 1), 1);
            }
            Edge.bad("sheet(0, #, 1)", lane -> x.sheet(0, lane, 1), -1, 3, Edge.MIN, Edge.MAX);
        });
        Edge.of(35, "BAD: also n above 40", "40, 41", () -> {
            for (int lane = 0; lane < 3; lane++) {
                LoseLeague x = new LoseLeague();
                Check.due("sheet(0, " + lane + ", 40)", x.sheet(0, lane, 40), 1);
                Check.due("CELLS", x.count(3), 40);
                Check.due("the last CELL", x.lay(0, 39, 1), 1);
                Check.due("behind it", x.lay(0, 40, 1), -12);
                Check.due("sheet(0, " + lane + ", 41)", x.sheet(0, lane, 41), -1);
                Check.due("sheet(0, " + lane + ", MAX)", x.sheet(0, lane, Edge.MAX), -1);
            }
        });
        Edge.of(35, "-14 (SIZE): n below 0", "0, -1", () -> {
            LoseLeague x = new LoseLeague();
            Check.due("sheet(0, 0, 0)", x.sheet(0, 0, 0), 1);
            Check.due("CELLS", x.count(3), 0);
            Check.due("sheet(0, 0, -1)", x.sheet(0, 0, -1), -14);
            Check.due("sheet(0, 0, MIN)", x.sheet(0, 0, Edge.MIN), -14);
            Check.due("sheet(3, 2, -41)", x.sheet(3, 2, -41), -14);
        });
        Edge.of(35, "BAD: also n above 40; -14 (SIZE): n below 0.", "BAD comes first", () -> {
            LoseLeague x = new LoseLeague();
            Check.due("sheet(4, 0, -1)", x.sheet(4, 0, -1), -1);
            Check.due("sheet(-1, 0, -1)", x.sheet(-1, 0, -1), -1);
            Check.due("sheet(0, 3, -1)", x.sheet(0, 3, -1), -1);
            Check.due("sheet(0, -1, -1)", x.sheet(0, -1, -1), -1);
        });
        Edge.of(35, "A SHEET is a new row of CELLS 0", "in place of what it was, each CELL", () -> {
            LoseLeague x = Check.told(FIVE);
            for (int lane = 0; lane < 3; lane++) {
                x.sheet(2, lane, 4);
                for (int i = 0; i < 4; i++) {
                    x.lay(2, i, 1 + i);
                }
                x.sheet(2, lane, 6);
                Check.due("0 and 0", x.read(2, lane, 0, 1), -20);
                x.lay(2, 0, 1);
                x.lay(2, 3, 2);
                x.lay(2, 4, 3);
                x.strike(0);
                Check.due("1 and 0, 0 and 2, 3 and 0", x.read(2, lane, 0, 3), 3);
                Check.due("they are", pair(x, 0) * 10000 + pair(x, 1) * 100 + pair(x, 2), 100230);
            }
        });
        Edge.of(35, "A SHEET is a new row of CELLS 0", "as long as it was: the first CELL, the last CELL", () -> {
            for (int n : new int[] {2, 3, 40}) {
                LoseLeague x = Check.told(FIVE);
                x.sheet(0, 0, n);
                for (int i = 0; i < n; i++) {
                    x.lay(0, i, 3);
                }
                x.sheet(0, 0, n);
                x.lay(0, n - 2, 1);
                Check.due("1 and 0", x.read(0, 0, n - 2, 1), 1);
                Check.due("they are", pair(x, 0), 10);
                x.sheet(0, 0, n);
                x.lay(0, 1, 1);
                Check.due("0 and 1", x.read(0, 0, 0, 1), 1);
                Check.due("they are", pair(x, 1), 1);
            }
        });
        Edge.of(35, "A SHEET is a new row", "that SHEET alone", () -> {
            LoseLeague x = Check.told(FIVE);
            for (int k = 0; k < 4; k++) {
                x.sheet(k, k % 3, 2);
                x.lay(k, 1, 1 + k);
            }
            x.sheet(1, 0, 40);
            for (int k = 0; k < 4; k++) {
                x.strike(0);
                Check.due("read(" + k + ")", x.read(k, k == 1 ? 0 : k % 3, 0, 1), k == 1 ? -20 : 1);
                Check.due("its CELL", k == 1 ? 1 + k : x.fixture(0, 1), 1 + k);
            }
        });
    }

    private static int pair(LoseLeague x, int i) {
        return x.fixture(i, 0) * 10 + x.fixture(i, 1);
    }

    private static void lay() {
        String sentence = "CELL i of a SHEET becomes v (its lowest bits): 1. BAD: k; -10 less the FAULT: NULL, INDEX.";
        Edge.of(36, sentence, "k at both ends", () -> {
            LoseLeague x = new LoseLeague();
            for (int k = 0; k < 4; k++) {
                x.sheet(k, 0, 1);
                Check.due("lay(" + k + ", 0, 1)", x.lay(k, 0, 1), 1);
            }
            Edge.bad("lay(#, 0, 1)", k -> x.lay(k, 0, 1), -1, 4, Edge.MIN, Edge.MAX);
        });
        Edge.of(36, "-10 less the FAULT: NULL, INDEX", "NULL comes ahead of INDEX, BAD ahead of both", () -> {
            LoseLeague x = new LoseLeague();
            for (int i : new int[] {0, -1, 40, Edge.MIN, Edge.MAX}) {
                Check.due("lay(1, " + i + ", 0)", x.lay(1, i, 0), -11);
                Check.due("lay(4, " + i + ", 0)", x.lay(4, i, 0), -1);
            }
        });
        Edge.of(36, "-10 less the FAULT: NULL, INDEX", "INDEX: the first CELL, the last one, those next to them", () -> {
            LoseLeague x = new LoseLeague();
            int[] sizes = {1, 5, 40};
            for (int n : sizes) {
                x.sheet(1, 2, n);
                Check.due("lay(1, 0, 7)", x.lay(1, 0, 7), 1);
                Check.due("lay(1, n - 1, 7)", x.lay(1, n - 1, 7), 1);
                Check.due("lay(1, n, 7)", x.lay(1, n, 7), -12);
                Check.due("lay(1, -1, 7)", x.lay(1, -1, 7), -12);
                Check.due("lay(1, MIN, 7)", x.lay(1, Edge.MIN, 7), -12);
                Check.due("lay(1, MAX, 7)", x.lay(1, Edge.MAX, 7), -12);
            }
        });
        Edge.of(36, "-10 less the FAULT: NULL, INDEX", "no CELLS are not nothing", () -> {
            LoseLeague x = new LoseLeague();
            x.sheet(1, 0, 0);
            Check.due("lay(1, 0, 7)", x.lay(1, 0, 7), -12);
            Check.due("lay(1, -1, 7)", x.lay(1, -1, 7), -12);
            Check.due("lay(0, 0, 7)", x.lay(0, 0, 7), -11);
        });
        Edge.of(36, "CELL i of a SHEET becomes v", "that CELL alone", () -> {
            LoseLeague x = Check.told(FIVE);
            x.sheet(0, 1, 4);
            x.lay(0, 1, 1);
            x.lay(0, 2, 2);
            x.lay(0, 1, 3);
            Check.due("0 and 3, 2 and 0", x.read(0, 1, 0, 2), 2);
            Check.due("they are", pair(x, 0) * 100 + pair(x, 1), 320);
        });
    }

    /** Whether a value comes to be TOWN 1 in a lane. */
    private static void comesToOne(int lane, int v, boolean does) {
        LoseLeague x = Check.told("plain 1;plain 2;");
        x.sheet(0, lane, 2);
        Check.due("lay, lane " + lane + ", " + v, x.lay(0, 1, v), 1);
        Check.due("read, lane " + lane + ", " + v, x.read(0, lane, 0, 1), does ? 1 : -20);
    }

    private static void lowestBits() {
        Edge.of(36, "becomes v (its lowest bits)", "BYTES: 8 of them", () -> {
            for (int v : new int[] {1, 257, -255, 65537, 129 + 128, Edge.MIN + 1, 0x7fffff01}) {
                comesToOne(0, v, true);
            }
            for (int v : new int[] {0, 256, 127, 128, 129, 255, -1, -128, -127, Edge.MIN, Edge.MAX}) {
                comesToOne(0, v, false);
            }
        });
        Edge.of(36, "becomes v (its lowest bits)", "SHORTS: 16 of them", () -> {
            for (int v : new int[] {1, 65537, -65535, Edge.MIN + 1, 0x7fff0001}) {
                comesToOne(1, v, true);
            }
            for (int v : new int[] {0, 257, -255, 32767, 32768, 32769, 65535, 65536, -1, Edge.MIN, Edge.MAX}) {
                comesToOne(1, v, false);
            }
        });
        Edge.of(36, "becomes v (its lowest bits)", "INTS: all of them", () -> {
            comesToOne(2, 1, true);
            for (int v : new int[] {0, 257, 65537, -255, -65535, Edge.MIN + 1, 0x7fffff01, Edge.MIN, Edge.MAX}) {
                comesToOne(2, v, false);
            }
        });
        Edge.of(Edge.TERMS, "rows of BYTES (lane 0), SHORTS (1), INTS (2), all with a sign", "128, 32768 are below 0", () -> {
            comesToOne(0, 128 + 1, false);
            comesToOne(1, 32768 + 1, false);
            comesToOne(2, Edge.MIN + 1, false);
        });
    }

    private static LoseLeague withSheet(int... cells) {
        LoseLeague x = Check.told("plain 1;plain 2;plain 3;game 2 1;");
        x.sheet(0, 1, cells.length);
        for (int i = 0; i < cells.length; i++) {
            x.lay(0, i, cells[i]);
        }
        return x;
    }

    private static void read(LoseLeague x, int f, int n, int answer, int torn, int fixtures) {
        String call = "read(0, 1, " + f + ", " + n + ")";
        Check.due(call, x.read(0, 1, f, n), answer);
        Check.due(call + ", torn()", x.torn(), torn);
        Check.due(call + ", FIXTURES", x.rule(1), fixtures);
    }

    private static void readNumbers() {
        Edge.of(37, "BAD: k, lane, n;", "k, lane at both ends", () -> {
            LoseLeague x = withSheet(0, 1);
            for (int k = 0; k < 4; k++) {
                x.sheet(k, k % 3, 2);
                x.lay(k, 1, 1);
                Check.due("read(" + k + ")", x.read(k, k % 3, 0, 1), 1);
            }
            Edge.bad("read(#, 0, 0, 1)", k -> x.read(k, 0, 0, 1), -1, 4, Edge.MIN, Edge.MAX);
            Edge.bad("read(0, #, 0, 1)", lane -> x.read(0, lane, 0, 1), -1, 3, Edge.MIN, Edge.MAX);
            Check.due("FIXTURES", x.rule(1), 5);
        });
        Edge.of(37, "n (0 to 20) times two TOWNS are read", "n at both ends", () -> {
            LoseLeague x = withSheet(0, 1, 1, 2, 2, 0);
            Edge.bad("read(0, 1, 0, #)", n -> x.read(0, 1, 0, n), -1, 21, Edge.MIN, Edge.MAX);
            Check.due("FIXTURES", x.rule(1), 1);
            read(x, 0, 0, 0, 0, 1);
            read(x, 0, 20, 3, INDEX, 4);
        });
        Edge.of(37, "n (0 to 20) times two TOWNS are read of a SHEET taken as of a lane", "as of its own lane alone", () -> {
            for (int lane = 0; lane < 3; lane++) {
                LoseLeague x = Check.told("plain 1;plain 2;plain 3;");
                x.sheet(2, lane, 4);
                x.lay(2, 0, 2);
                x.lay(2, 3, 1);
                for (int as = 0; as < 3; as++) {
                    Check.due("lane " + lane + " as of " + as, x.read(2, as, 0, 2), as == lane ? 2 : 0);
                }
                Check.due("FIXTURES", x.rule(1), 2);
                Check.due("2 and 0, 0 and 1", pair(x, 0) * 100 + pair(x, 1), 2001);
            }
        });
        Edge.of(37, "n (0 to 20) times two TOWNS are read", "twenty that are whole: the 11th is refused", () -> {
            LoseLeague x = Check.told("plain 1;plain 2;");
            x.sheet(0, 2, 40);
            for (int i = 1; i < 40; i += 2) {
                x.lay(0, i, 1);
            }
            Check.due("read(0, 2, 0, 20)", x.read(0, 2, 0, 20), -30);
            Check.due("FIXTURES", x.rule(1), 0);
            Check.due("read(0, 2, 0, 11)", x.read(0, 2, 0, 11), -30);
            Check.due("read(0, 2, 0, 10)", x.read(0, 2, 0, 10), 10);
            Check.due("FIXTURES", x.rule(1), 10);
            Check.due("torn()", x.torn(), 0);
        });
        Edge.of(37, "BAD: k, lane, n;", "BAD comes ahead of all, also by n 0, also for nothing", () -> {
            LoseLeague x = Check.told(FIVE);
            Check.due("read(4, 0, 0, 0)", x.read(4, 0, 0, 0), -1);
            Check.due("read(0, 3, 0, 0)", x.read(0, 3, 0, 0), -1);
            Check.due("read(0, 0, -1, 21)", x.read(0, 0, -1, 21), -1);
            Check.due("read(0, 3, 0, 1)", x.read(0, 3, 0, 1), -1);
        });
    }

    private static void readPlaces() {
        String sentence = "two CELLS each from CELL f on, one behind another as by book(): how many came";
        Edge.of(37, sentence, "the first two CELLS, the last two", () -> {
            LoseLeague x = withSheet(0, 1, 2, 0, 1);
            read(x, 0, 1, 1, 0, 2);
            Check.due("CELLS 0, 1", pair(x, 1), 1);
            read(x, 3, 1, 1, 0, 3);
            Check.due("CELLS 3, 4", pair(x, 2), 1);
            read(x, 1, 2, 2, 0, 5);
            Check.due("CELLS 1, 2", pair(x, 3), 12);
            Check.due("CELLS 3, 4", pair(x, 4), 1);
        });
        Edge.of(37, sentence, "f ahead of the first, behind the last", () -> {
            LoseLeague x = withSheet(0, 1, 2, 0, 1);
            for (int f : new int[] {-1, -2, 4, 5, 6, 40, Edge.MIN, Edge.MIN + 1, Edge.MAX, Edge.MAX - 1}) {
                read(x, f, 1, 0, INDEX, 1);
                read(x, f, 20, 0, INDEX, 1);
            }
        });
        Edge.of(37, sentence, "the last CELL of 40", () -> {
            LoseLeague x = Check.told("plain 1;plain 2;");
            x.sheet(0, 0, 40);
            x.lay(0, 39, 1);
            Check.due("read(0, 0, 38, 1)", x.read(0, 0, 38, 1), 1);
            Check.due("read(0, 0, 38, 2)", x.read(0, 0, 38, 2), 1);
            Check.due("torn()", x.torn(), INDEX);
            Check.due("read(0, 0, 39, 1)", x.read(0, 0, 39, 1), 0);
            Check.due("FIXTURES", x.rule(1), 2);
        });
    }

    private static void readMachine() {
        Edge.of(37, "What the machine refuses: those that were whole ahead came", "half of one is not whole", () -> {
            LoseLeague x = withSheet(0, 1, 2, 0, 1);
            read(x, 0, 2, 2, 0, 3);
            read(x, 0, 3, 2, INDEX, 5);
            Check.due("the last that came", pair(x, 4), 20);
            read(x, 4, 1, 0, INDEX, 5);
        });
        Edge.of(37, "What the machine refuses: those that were whole ahead came", "half of one, of no TOWN, is not refused by book()", () -> {
            LoseLeague x = withSheet(0, 1, 77);
            read(x, 0, 2, 1, INDEX, 2);
            read(x, 2, 1, 0, INDEX, 2);
        });
        Edge.of(37, "(its FAULT is asked by torn(); by n 0 nothing is asked of the machine: 0, torn() 0)", "of nothing, of another lane, from no CELL on", () -> {
            LoseLeague x = withSheet(0, 1);
            Check.due("read(1, 0, 0, 1)", x.read(1, 0, 0, 1), 0);
            Check.due("torn()", x.torn(), NULL);
            Check.due("read(1, 0, 0, 0)", x.read(1, 0, 0, 0), 0);
            Check.due("torn()", x.torn(), 0);
            Check.due("read(0, 2, 0, 1)", x.read(0, 2, 0, 1), 0);
            Check.due("torn()", x.torn(), CAST);
            Check.due("read(0, 2, 0, 0)", x.read(0, 2, 0, 0), 0);
            Check.due("torn()", x.torn(), 0);
            read(x, -1, 1, 0, INDEX, 1);
            read(x, -1, 0, 0, 0, 1);
            read(x, Edge.MAX, 0, 0, 0, 1);
        });
        Edge.of(Edge.TERMS, "A FAULT is what the machine finds: 1 NULL (nothing), 2 INDEX, 3 CAST (another lane), 4 SIZE (below 0).", "NULL, whichever lane, whichever CELL", () -> {
            LoseLeague x = Check.told("plain 1;plain 2;");
            for (int lane = 0; lane < 3; lane++) {
                for (int f : new int[] {0, -1, 40, Edge.MAX, Edge.MIN}) {
                    x.read(3, 0, 0, 0);
                    Check.due("read(3, " + lane + ", " + f + ", 1)", x.read(3, lane, f, 1), 0);
                    Check.due("torn()", x.torn(), NULL);
                }
            }
        });
        Edge.of(Edge.TERMS, "3 CAST (another lane)", "each lane as of each, CAST comes ahead of INDEX", () -> {
            for (int lane = 0; lane < 3; lane++) {
                for (int as = 0; as < 3; as++) {
                    LoseLeague x = Check.told("plain 1;plain 2;");
                    x.sheet(0, lane, 2);
                    x.lay(0, 1, 1);
                    Check.due("lane " + lane + " as of " + as, x.read(0, as, 0, 1), lane == as ? 1 : 0);
                    Check.due("torn()", x.torn(), lane == as ? 0 : CAST);
                    x.read(0, as, -1, 1);
                    Check.due("torn() from CELL -1 on", x.torn(), lane == as ? INDEX : CAST);
                    x.sheet(0, lane, 0);
                    x.read(0, as, 0, 1);
                    Check.due("torn() of no CELLS", x.torn(), lane == as ? INDEX : CAST);
                }
            }
        });
        Edge.of(Edge.TERMS, "with 0 to 40 CELLS, or nothing (at first)", "a row of no CELLS is not nothing", () -> {
            LoseLeague x = Check.told("plain 1;plain 2;");
            x.sheet(3, 1, 0);
            x.read(3, 1, 0, 1);
            Check.due("torn()", x.torn(), INDEX);
        });
    }

    private static void readRefused() {
        String sentence = "-20 less i (0 on): the i-th, whole, is refused by book() (in whichever way): then none came; the first met.";
        Edge.of(37, sentence, "the first, the second, the tenth", () -> {
            read(withSheet(1, 1), 0, 1, -20, 0, 1);
            read(withSheet(0, 1, 1, 1), 0, 2, -21, 0, 1);
            LoseLeague x = withSheet(0, 1, 0, 1, 0, 1, 0, 1, 0, 1, 0, 1, 0, 1, 0, 1, 0, 1, 2, 2);
            read(x, 0, 10, -29, 0, 1);
            read(x, 18, 1, -20, 0, 1);
            read(x, 16, 2, -21, 0, 1);
            read(x, 0, 9, 9, 0, 10);
        });
        Edge.of(37, sentence, "alike, no such TOWN, either of them, at both ends", () -> {
            int[][] pairs = {{0, 0}, {2, 2}, {3, 0}, {0, 3}, {-1, 0}, {0, -1}, {32767, 0}, {0, -32768}};
            for (int[] p : pairs) {
                read(withSheet(p), 0, 1, -20, 0, 1);
            }
            read(withSheet(0, 2), 0, 1, 1, 0, 2);
            read(withSheet(2, 0), 0, 1, 1, 0, 2);
        });
        Edge.of(37, sentence, "FULL: the tenth FIXTURE comes, the eleventh does not", () -> {
            LoseLeague x = withSheet(0, 1, 0, 1, 0, 1, 0, 1, 0, 1);
            read(x, 0, 5, 5, 0, 6);
            read(x, 0, 5, -24, 0, 6);
            read(x, 0, 4, 4, 0, 10);
            read(x, 0, 1, -20, 0, 10);
            read(x, 0, 0, 0, 0, 10);
        });
        Edge.of(37, "then none came", "those that were there stay", () -> {
            LoseLeague x = withSheet(0, 1, 1, 0, 0, 0);
            x.book(0, 2);
            read(x, 0, 3, -22, 0, 2);
            Check.due("they are", pair(x, 0) * 100 + pair(x, 1), 2102);
            Check.due("fixture(2, 0)", x.fixture(2, 0), -1);
            Check.due("the next comes behind them", x.book(1, 2), 3);
        });
        Edge.of(37, "the first met.", "book()'s refusal ahead of the machine's, the machine's ahead of book()'s", () -> {
            read(withSheet(0, 1, 1, 1, 2), 0, 3, -21, 0, 1);
            read(withSheet(1, 1), 0, 2, -20, 0, 1);
            read(withSheet(0, 1, 2), 0, 2, 1, INDEX, 2);
            LoseLeague x = withSheet(1, 1, 2, 2);
            Check.due("of another lane", x.read(0, 0, 0, 1), 0);
            Check.due("torn()", x.torn(), CAST);
        });
        Edge.of(37, "the first met.", "two that are refused", () -> {
            read(withSheet(0, 1, 1, 1, 7, 7), 0, 3, -21, 0, 1);
        });
    }

    private static void torn() {
        Edge.of(38, "The FAULT of the latest read() that answered 0 or more; 0", "none yet", () -> {
            LoseLeague x = Check.told(FIVE);
            Check.due("torn()", x.torn(), 0);
            x.lay(0, 0, 0);
            x.sheet(0, 0, -1);
            Check.due("NULL of lay(), SIZE of sheet() are none of read()", x.torn(), 0);
        });
        Edge.of(38, "The FAULT of the latest read() that answered 0 or more; 0", "no other call has to do with it", () -> {
            LoseLeague x = withSheet(0, 1, 2);
            read(x, 2, 1, 0, INDEX, 1);
            x.keep(0);
            x.back(0);
            x.sheet(0, 1, 4);
            x.lay(0, 0, 1);
            x.book(0, 1);
            Check.tell(x, "!");
            Check.due("torn()", x.torn(), INDEX);
            Check.tell(x, "wise 5;");
            Check.due("torn()", x.torn(), INDEX);
        });
        Edge.of(38, "The FAULT of the latest read() that answered 0 or more; 0", "0, some, all: each", () -> {
            LoseLeague x = withSheet(0, 1, 2);
            read(x, 2, 1, 0, INDEX, 1);
            read(x, 0, 1, 1, 0, 2);
            read(x, 0, 2, 1, INDEX, 3);
            read(x, 0, 0, 0, 0, 3);
            x.read(1, 0, 0, 1);
            Check.due("torn()", x.torn(), NULL);
            x.read(0, 0, 0, 1);
            Check.due("torn()", x.torn(), CAST);
        });
        Edge.of(38, "(one that answers BAD or -20 less something leaves it)", "BAD leaves a FAULT, leaves 0", () -> {
            LoseLeague x = withSheet(0, 1, 2);
            read(x, 0, 21, -1, 0, 1);
            read(x, 2, 1, 0, INDEX, 1);
            read(x, 0, 21, -1, INDEX, 1);
            read(x, 0, -1, -1, INDEX, 1);
            x.read(4, 0, 0, 1);
            x.read(0, 3, 0, 1);
            Check.due("torn()", x.torn(), INDEX);
        });
        Edge.of(38, "(one that answers BAD or -20 less something leaves it)", "-20 less something leaves a FAULT, leaves 0", () -> {
            LoseLeague x = withSheet(1, 1, 0, 1, 2, 2, 0);
            read(x, 0, 1, -20, 0, 1);
            read(x, 6, 1, 0, INDEX, 1);
            read(x, 0, 1, -20, INDEX, 1);
            read(x, 2, 2, -21, INDEX, 1);
            read(x, 2, 1, 1, 0, 2);
            read(x, 2, 2, -21, 0, 2);
        });
    }

    private static void count() {
        Edge.of(39, "4 STRENGTH of all TOWNS, 5 LOSSES of all. BAD.", "what at both ends", () -> {
            LoseLeague x = new LoseLeague();
            Edge.taken("count(#)", x::count, 0, 1, 2, 3, 4, 5);
            Edge.bad("count(#)", x::count, -1, 6, Edge.MIN, Edge.MAX);
        });
        Edge.of(39, "How many: 0 SEEN, 1 IMAGES, 2 bytes on THE TAPE", "none, all", () -> {
            LoseLeague x = Check.told(FIVE);
            for (int what = 0; what <= 2; what++) {
                Check.due("none: count(" + what + ")", x.count(what), 0);
            }
            for (int i = 1; i <= 6; i++) {
                x.see(0, 9);
                Check.due("SEEN", x.count(0), i);
            }
            x.keep(1);
            Check.due("one IMAGE", x.count(1), 1);
            x.keep(1);
            Check.due("still one", x.count(1), 1);
            x.keep(0);
            Check.due("two IMAGES", x.count(1), 2);
            for (int i = 0; i < 161; i++) {
                x.feed(' ');
            }
            Check.due("bytes", x.count(2), 160);
        });
        Edge.of(39, "3 CELLS of SHEET 0 (NONE: nothing)", "nothing, 0, 1, 40; SHEET 0 alone", () -> {
            LoseLeague x = new LoseLeague();
            for (int k = 1; k < 4; k++) {
                x.sheet(k, 0, 9);
                Check.due("nothing", x.count(3), -4);
            }
            for (int n : new int[] {0, 1, 39, 40}) {
                x.sheet(0, n % 3, n);
                Check.due("CELLS", x.count(3), n);
            }
            x.sheet(1, 0, 2);
            Check.due("CELLS", x.count(3), 40);
        });
        Edge.of(39, "4 STRENGTH of all TOWNS, 5 LOSSES of all", "none, all that may be", () -> {
            LoseLeague x = Check.told("plain 0;proud 0;wise 0;careless 0;plain 0;");
            Check.due("count(4)", x.count(4), 0);
            Check.due("count(5)", x.count(5), 0);
            for (int t = 0; t < 5; t++) {
                x.alter(t, 1, 20);
                x.alter(t, 2, 99);
                Check.due("count(4)", x.count(4), 20 * (t + 1));
                Check.due("count(5)", x.count(5), 99 * (t + 1));
            }
            Check.due("no TOWNS", new LoseLeague().count(4), 0);
            Check.due("no TOWNS", new LoseLeague().count(5), 0);
        });
    }
}
