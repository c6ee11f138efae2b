/** Promises 35 to 38: sheet, lay, read, torn. */
public final class SheetsTest {
    private static void sheet() {
        LoseLeague x = new LoseLeague();
        Check.due("sheet(0, 0, 0)", x.sheet(0, 0, 0), 1);
        Check.due("no cells", x.lay(0, 0, 1), -12);
        Check.due("sheet(3, 2, 40)", x.sheet(3, 2, 40), 1);
        Check.due("its last cell", x.lay(3, 39, 1), 1);
        Check.due("behind it", x.lay(3, 40, 1), -12);
        Check.due("sheet(-1, 0, 1)", x.sheet(-1, 0, 1), -1);
        Check.due("sheet(4, 0, 1)", x.sheet(4, 0, 1), -1);
        Check.due("sheet(0, -1, 1)", x.sheet(0, -1, 1), -1);
        Check.due("sheet(0, 3, 1)", x.sheet(0, 3, 1), -1);
        Check.due("sheet(0, 0, 41)", x.sheet(0, 0, 41), -1);
        Check.due("sheet(0, 0, MAX)", x.sheet(0, 0, Integer.MAX_VALUE), -1);
        Check.due("sheet(0, 0, -1)", x.sheet(0, 0, -1), -14);
        Check.due("sheet(0, 0, MIN)", x.sheet(0, 0, Integer.MIN_VALUE), -14);
        Check.due("BAD ahead of SIZE: k", x.sheet(4, 0, -1), -1);
        Check.due("BAD ahead of SIZE: lane", x.sheet(0, 3, -1), -1);
        x.sheet(0, 0, 5);
        Check.due("refused", x.sheet(0, 0, -1) + x.sheet(0, 0, 41), -15);
        Check.due("it is as it was", x.count(3), 5);
    }

    private static void aNewRow() {
        LoseLeague x = Check.told("plain 1;plain 2;");
        x.sheet(2, 1, 2);
        x.lay(2, 1, 1);
        Check.due("0 and 1", x.read(2, 1, 0, 1), 1);
        x.sheet(2, 1, 2);
        Check.due("0 and 0", x.read(2, 1, 0, 1), -20);
        x.lay(2, 0, 1);
        x.sheet(2, 1, 2);
        Check.due("0 and 0, its first cell too", x.read(2, 1, 0, 1), -20);
        x.lay(2, 1, 1);
        x.sheet(2, 0, 40);
        Check.due("another lane", x.read(2, 1, 0, 1), 0);
        Check.due("CAST", x.torn(), 3);
        Check.due("its cells are new, too", x.read(2, 0, 0, 1), -20);
    }

    private static void lay() {
        LoseLeague x = new LoseLeague();
        Check.due("lay(-1, 0, 0)", x.lay(-1, 0, 0), -1);
        Check.due("lay(4, 0, 0)", x.lay(4, 0, 0), -1);
        Check.due("NULL", x.lay(1, 0, 0), -11);
        Check.due("NULL ahead of INDEX", x.lay(1, -1, 0), -11);
        x.sheet(1, 0, 3);
        Check.due("INDEX", x.lay(1, 3, 0), -12);
        Check.due("INDEX", x.lay(1, -1, 0), -12);
        Check.due("INDEX", x.lay(1, Integer.MAX_VALUE, 0), -12);
        Check.due("INDEX", x.lay(1, Integer.MIN_VALUE, 0), -12);
        Check.due("lay(1, 2, 7)", x.lay(1, 2, 7), 1);
        Check.due("another sheet", x.lay(2, 2, 7), -11);
    }

    /** Whether a value that is laid comes to be town 1. */
    private static void lowestBits(int lane, int v, boolean comesToOne) {
        LoseLeague x = Check.told("plain 1;plain 2;");
        x.sheet(0, lane, 2);
        x.lay(0, 1, v);
        Check.due("lane " + lane + ", " + v, x.read(0, lane, 0, 1), comesToOne ? 1 : -20);
    }

    private static void lanes() {
        lowestBits(0, 1, true);
        lowestBits(0, 257, true);
        lowestBits(0, -255, true);
        lowestBits(0, 65537, true);
        lowestBits(0, 255, false);
        lowestBits(0, 129, false);
        lowestBits(1, 1, true);
        lowestBits(1, 257, false);
        lowestBits(1, 65537, true);
        lowestBits(1, -65535, true);
        lowestBits(1, 65535, false);
        lowestBits(2, 1, true);
        lowestBits(2, 257, false);
        lowestBits(2, 65537, false);
        lowestBits(2, -1, false);
    }

    private static LoseLeague withSheet(int... cells) {
        LoseLeague x = Check.told("plain 1;plain 2;plain 3;game 2 1;");
        x.sheet(0, 1, cells.length);
        for (int i = 0; i < cells.length; i++) {
            x.lay(0, i, cells[i]);
        }
        return x;
    }

    private static void read(LoseLeague x, int f, int n, int answer, int torn, int fixtures) {
        String call = "read(0, 1, " + f + ", " + n + ")";
        Check.due(call, x.read(0, 1, f, n), answer);
        Check.due(call + " torn()", x.torn(), torn);
        Check.due(call + " fixtures", x.rule(1), fixtures);
    }

    private static void reads() {
        LoseLeague x = withSheet(0, 1, 2, 0, 1);
        read(x, 0, 2, 2, 0, 3);
        Check.due("the first", x.fixture(1, 0) * 10 + x.fixture(1, 1), 1);
        Check.due("the second", x.fixture(2, 0) * 10 + x.fixture(2, 1), 20);
        read(x, 1, 2, 2, 0, 5);
        Check.due("from cell 1 on", x.fixture(3, 0) * 10 + x.fixture(3, 1), 12);
        Check.due("from cell 3 on", x.fixture(4, 0) * 10 + x.fixture(4, 1), 1);
        read(x, 0, 3, 2, 2, 7);
        Check.due("those that were whole came", x.fixture(6, 0) * 10 + x.fixture(6, 1), 20);
        read(x, 4, 1, 0, 2, 7);
        read(x, 5, 1, 0, 2, 7);
        read(x, 3, 2, 1, 2, 8);
        read(x, 0, 0, 0, 0, 8);
        read(x, -1, 1, 0, 2, 8);
        read(x, 77, 0, 0, 0, 8);
        read(x, Integer.MAX_VALUE, 20, 0, 2, 8);
        read(x, 3, 1, 1, 0, 9);
        read(x, Integer.MIN_VALUE, 20, 0, 2, 9);
        read(x, Integer.MIN_VALUE + 1, 20, 0, 2, 9);
        read(x, -2, 2, 0, 2, 9);
    }

    private static void readsRefused() {
        LoseLeague x = withSheet(0, 1, 2, 2, 0, 7, -1, 0, 0, 1, 1);
        read(x, 10, 1, 0, 2, 1);
        // torn() stays by all that answers below 0
        read(x, 0, 2, -21, 2, 1);
        read(x, 2, 20, -20, 2, 1);
        read(x, 4, 1, -20, 2, 1);
        read(x, 6, 1, -20, 2, 1);
        read(x, 0, 20, -21, 2, 1);
        read(x, 0, 21, -1, 2, 1);
        read(x, 0, -1, -1, 2, 1);
        Check.due("read(4, 1, 0, 1)", x.read(4, 1, 0, 1), -1);
        Check.due("read(-1, 1, 0, 1)", x.read(-1, 1, 0, 1), -1);
        Check.due("read(0, 3, 0, 1)", x.read(0, 3, 0, 1), -1);
        Check.due("read(0, -1, 0, 1)", x.read(0, -1, 0, 1), -1);
        Check.due("BAD also by n 0", x.read(0, 3, 0, 0) + x.read(4, 0, 0, 0), -2);
        Check.due("torn()", x.torn(), 2);
        Check.due("the fixture that there was", x.fixture(0, 0) * 10 + x.fixture(0, 1), 21);
    }

    private static void readsTooMany() {
        LoseLeague x = withSheet(0, 1, 0, 1, 0, 1, 0, 1);
        read(x, 0, 4, 4, 0, 5);
        read(x, 0, 4, 4, 0, 9);
        // one more may come: the second is refused, so that none came
        read(x, 0, 2, -21, 0, 9);
        read(x, 4, 3, -21, 0, 9);
        read(x, 6, 2, 1, 2, 10);
        read(x, 0, 1, -20, 2, 10);
        read(x, 7, 1, 0, 2, 10);
        read(x, 0, 0, 0, 0, 10);
    }

    private static void theMachine() {
        LoseLeague x = Check.told("plain 1;plain 2;");
        Check.due("nothing", x.read(3, 0, 0, 1), 0);
        Check.due("NULL", x.torn(), 1);
        Check.due("by n 0 nothing is asked", x.read(3, 0, 0, 0), 0);
        Check.due("torn()", x.torn(), 0);
        x.sheet(3, 0, 2);
        x.lay(3, 1, 1);
        Check.due("CAST ahead of INDEX", x.read(3, 1, -1, 1), 0);
        Check.due("CAST", x.torn(), 3);
        Check.due("by n 0 nothing is asked", x.read(3, 2, -1, 0), 0);
        Check.due("torn()", x.torn(), 0);
        x.read(3, 2, 0, 1);
        Check.due("CAST", x.torn(), 3);
        Check.due("as of its lane", x.read(3, 0, 0, 1), 1);
        Check.due("torn()", x.torn(), 0);
        x.sheet(3, 2, 2);
        x.read(3, 0, 0, 1);
        Check.due("CAST", x.torn(), 3);
        x.sheet(1, 0, 0);
        x.read(1, 0, 0, 1);
        Check.due("INDEX", x.torn(), 2);
    }

    private static void twenty() {
        LoseLeague x = Check.told("plain 1;plain 2;");
        x.sheet(0, 2, 40);
        for (int i = 1; i < 40; i += 2) {
            x.lay(0, i, 1);
        }
        Check.due("twenty: the 11th is refused", x.read(0, 2, 0, 20), -30);
        Check.due("none came", x.rule(1), 0);
        Check.due("ten from cell 20 on", x.read(0, 2, 20, 11), 10);
        Check.due("INDEX", x.torn(), 2);
        Check.due("ten came", x.rule(1), 10);
    }

    public static void main(String[] args) {
        sheet();
        aNewRow();
        lay();
        lanes();
        reads();
        readsRefused();
        readsTooMany();
        theMachine();
        twenty();
        Check.finish("SheetsTest");
    }
}
