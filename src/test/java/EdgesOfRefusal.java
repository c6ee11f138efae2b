import java.util.function.ToLongFunction;

/**
 * What is refused changes nothing: of two objects of the same calls one is refused a call more, and
 * then all that the two hold is brought to light, also what only comes to light by changing it.
 */
final class EdgesOfRefusal {
    private static final String SENTENCE = "what is refused changes nothing (but THE TAPE, as told)";

    private EdgesOfRefusal() {
    }

    static void all() {
        tape();
        changes();
        seen();
        images();
        sheets();
        asked();
        texts();
    }

    /** Full of everything: ten FIXTURES, six SEEN, SHEETS 0 to 2, IMAGE 1, a tape of 160 bytes with a text on it. */
    private static LoseLeague full() {
        LoseLeague x = Check.told("plain9;proud6;wise17;careless20;");
        for (int i = 0; i < 4; i++) {
            x.book(i, (i + 1) % 4);
        }
        x.alter(0, 2, 3);
        x.alter(1, 3, 4);
        x.weeks(5);
        x.keep(1);
        for (int i = 0; i < 6; i++) {
            x.book(i % 4, 3 - i % 4);
        }
        for (int week = 0; week <= 20; week += 4) {
            x.see(week, x.loser(week) < 0 ? 9 : x.loser(week));
        }
        for (int k = 0; k < 3; k++) {
            x.sheet(k, k, 4);
            x.lay(k, 1, 1 + k);
            x.lay(k, 2, 2 - k);
            x.lay(k, 3, 3);
        }
        x.read(0, 0, 3, 1);
        Check.feed(x, " ".repeat(138) + "wise3;proud5;game1 0; ");
        return x;
    }

    private static void league(LoseLeague x, StringBuilder s) {
        int towns = x.rule(0);
        int fixtures = x.rule(1);
        s.append(' ').append(towns).append(' ').append(fixtures).append(' ').append(x.rule(2));
        for (int t = 0; t < towns; t++) {
            for (int what = 0; what <= 3; what++) {
                s.append(what == 0 ? ' ' : ',').append(x.town(t, what));
            }
        }
        for (int i = 0; i < fixtures; i++) {
            s.append(' ').append(x.fixture(i, 0)).append('-').append(x.fixture(i, 1));
        }
    }

    private static void seen(LoseLeague x, StringBuilder s) {
        for (int n = x.count(0); n >= 0; n--) {
            x.forget(n);
            s.append(" seen ").append(n).append(' ').append(x.kinds(3)).append(' ').append(x.strengths(3));
        }
    }

    private static void sheets(LoseLeague x, StringBuilder s) {
        x.strike(0);
        for (int k = 0; k < 4; k++) {
            s.append(" sheet ").append(k);
            for (int lane = 0; lane < 3; lane++) {
                for (int f = 0; f <= 4; f += 2) {
                    int came = x.read(k, lane, f, 1);
                    s.append(' ').append(came).append(' ').append(x.torn());
                    if (came == 0) {
                        break;
                    }
                    if (came == 1) {
                        s.append(' ').append(x.fixture(0, 0)).append('-').append(x.fixture(0, 1));
                        x.strike(0);
                    }
                }
            }
        }
    }

    private static String brought(LoseLeague x) {
        StringBuilder s = new StringBuilder();
        s.append("fault ").append(x.fault()).append(" torn ").append(x.torn()).append(" tape ").append(x.count(2));
        league(x, s);
        seen(x, s);
        sheets(x, s);
        for (int k = 0; k < 2; k++) {
            s.append(" image ").append(k).append(' ').append(x.back(k));
            league(x, s);
        }
        s.append(" text ").append(x.text()).append(' ').append(x.fault());
        league(x, s);
        return s.toString();
    }

    private static void refused(int promise, String call, ToLongFunction<LoseLeague> f, long want) {
        Edge.of(Edge.TERMS, SENTENCE, "promise " + promise + ", " + call, () -> {
            LoseLeague x = full();
            LoseLeague y = full();
            Check.due(call, f.applyAsLong(x), want);
            Check.same("behind it", brought(x), brought(y));
        });
    }

    private static void tape() {
        refused(2, "feed(-1)", x -> x.feed(-1), -1);
        refused(2, "feed(128)", x -> x.feed(128), -1);
        refused(2, "feed(33): FULL", x -> x.feed('!'), -3);
        refused(3, "end(-1)", x -> x.end(-1), -1);
        refused(3, "end(161)", x -> x.end(161), -1);
    }

    private static void changes() {
        refused(10, "alter(-1, 1, 1)", x -> x.alter(-1, 1, 1), -1);
        refused(10, "alter(4, 1, 1)", x -> x.alter(4, 1, 1), -1);
        refused(10, "alter(0, 4, 1)", x -> x.alter(0, 4, 1), -1);
        refused(10, "alter(0, -1, 1)", x -> x.alter(0, -1, 1), -1);
        for (int what = 0; what <= 3; what++) {
            int w = what;
            int most = new int[] {3, 20, 99, 99}[what];
            refused(10, "alter(0, " + w + ", " + (most + 1) + ")", x -> x.alter(0, w, most + 1), -1);
            refused(10, "alter(0, " + w + ", -1)", x -> x.alter(0, w, -1), -1);
        }
        refused(11, "lend(0, 0, 1)", x -> x.lend(0, 0, 1), -1);
        refused(11, "lend(0, 4, 1)", x -> x.lend(0, 4, 1), -1);
        refused(11, "lend(4, 0, 1)", x -> x.lend(4, 0, 1), -1);
        refused(11, "lend(3, 1, 21)", x -> x.lend(3, 1, 21), -1);
        refused(11, "lend(3, 1, -1)", x -> x.lend(3, 1, -1), -1);
        refused(11, "lend(0, 1, 20): STATE", x -> x.lend(0, 1, 20), -2);
        refused(11, "lend(3, 2, 10): FULL", x -> x.lend(3, 2, 10), -3);
        refused(12, "book(1, 1)", x -> x.book(1, 1), -1);
        refused(12, "book(1, 4)", x -> x.book(1, 4), -1);
        refused(12, "book(0, 1): FULL", x -> x.book(0, 1), -3);
        refused(13, "strike(11)", x -> x.strike(11), -1);
        refused(13, "strike(-1)", x -> x.strike(-1), -1);
        refused(14, "weeks(31)", x -> x.weeks(31), -1);
        refused(14, "weeks(-1)", x -> x.weeks(-1), -1);
        Edge.of(Edge.TERMS, SENTENCE, "promise 12, book(1, 1), not yet FULL", () -> {
            LoseLeague x = Check.told("plain 5;plain 4;game 0 1;");
            String before = Check.state(x);
            Check.due("book(1, 1)", x.book(1, 1), -1);
            Check.due("book(0, 2)", x.book(0, 2), -1);
            Check.same("behind it", Check.state(x), before);
        });
        Edge.of(Edge.TERMS, SENTENCE, "promise 14, weeks(30): FULL", () -> {
            LoseLeague x = Check.told("plain 5;plain 4;game 0 1;game 0 1;");
            Edge.passWeeks(x, 997);
            String before = Check.state(x);
            Check.due("weeks(30)", x.weeks(30), -3);
            Check.due("weeks(3)", x.weeks(3), -3);
            Check.same("behind it", Check.state(x), before);
        });
    }

    private static void seen() {
        refused(27, "see(21, 9)", x -> x.see(21, 9), -1);
        refused(27, "see(0, 4)", x -> x.see(0, 4), -1);
        refused(27, "see(0, 0): FULL", x -> x.see(0, 0), -3);
        refused(28, "forget(7)", x -> x.forget(7), -1);
        refused(28, "forget(-1)", x -> x.forget(-1), -1);
        Edge.of(Edge.TERMS, SENTENCE, "promise 27, see(21, 9), not yet FULL", () -> {
            LoseLeague x = Check.told("plain 5;plain 4;game 0 1;");
            x.see(0, 9);
            String before = Check.state(x);
            Check.due("see(21, 9)", x.see(21, 9), -1);
            Check.due("see(0, 2)", x.see(0, 2), -1);
            Check.same("behind it", Check.state(x), before);
        });
    }

    private static void images() {
        refused(33, "keep(2)", x -> x.keep(2), -1);
        refused(33, "keep(-1)", x -> x.keep(-1), -1);
        refused(34, "back(2)", x -> x.back(2), -1);
        refused(34, "back(-1)", x -> x.back(-1), -1);
        refused(34, "back(0): STATE", x -> x.back(0), -2);
    }

    private static void sheets() {
        refused(35, "sheet(4, 0, 1)", x -> x.sheet(4, 0, 1), -1);
        refused(35, "sheet(0, 3, 1)", x -> x.sheet(0, 3, 1), -1);
        refused(35, "sheet(0, 0, 41)", x -> x.sheet(0, 0, 41), -1);
        refused(35, "sheet(0, 1, -1): SIZE", x -> x.sheet(0, 1, -1), -14);
        refused(35, "sheet(3, 1, -1): SIZE, of nothing", x -> x.sheet(3, 1, -1), -14);
        refused(36, "lay(4, 0, 1)", x -> x.lay(4, 0, 1), -1);
        refused(36, "lay(3, 0, 1): NULL", x -> x.lay(3, 0, 1), -11);
        refused(36, "lay(0, 4, 1): INDEX", x -> x.lay(0, 4, 1), -12);
        refused(36, "lay(0, -1, 1): INDEX", x -> x.lay(0, -1, 1), -12);
        refused(37, "read(4, 0, 0, 1)", x -> x.read(4, 0, 0, 1), -1);
        refused(37, "read(0, 3, 0, 1)", x -> x.read(0, 3, 0, 1), -1);
        refused(37, "read(0, 0, 0, 21)", x -> x.read(0, 0, 0, 21), -1);
        refused(37, "read(0, 0, 0, 1): book() is FULL", x -> x.read(0, 0, 0, 1), -20);
        Edge.of(Edge.TERMS, SENTENCE, "promise 37, read(0, 0, 0, 2): the second is refused by book()", () -> {
            LoseLeague x = Check.told("plain 5;plain 4;game 0 1;");
            x.sheet(0, 0, 4);
            x.lay(0, 0, 1);
            x.lay(0, 2, 1);
            x.lay(0, 3, 1);
            String before = Check.state(x);
            Check.due("read(0, 0, 0, 2)", x.read(0, 0, 0, 2), -21);
            Check.same("behind it", Check.state(x), before);
        });
    }

    private static void asked() {
        refused(6, "rule(6)", x -> x.rule(6), -1);
        refused(7, "town(4, 0)", x -> x.town(4, 0), -1);
        refused(8, "fixture(10, 0)", x -> x.fixture(10, 0), -1);
        refused(9, "game(1, 1)", x -> x.game(1, 1), -1);
        refused(15, "runs(61, 0)", x -> x.runs(61, 0), -1);
        refused(16, "ahead(0, 61, 0)", x -> x.ahead(0, 61, 0), -1);
        refused(17, "loser(61)", x -> x.loser(61), -1);
        refused(18, "loses(4)", x -> x.loses(4), -1);
        refused(19, "order(15)", x -> x.order(15), -1);
        refused(19, "order(0): STATE", x -> x.order(0), -2);
        refused(20, "loan(61, 0)", x -> x.loan(61, 0), -1);
        refused(20, "loan(0, 0): NONE", x -> x.loan(0, 0), -4);
        refused(21, "swap(61, 0)", x -> x.swap(61, 0), -1);
        refused(21, "swap(0, 0): NONE", x -> x.swap(0, 0), -4);
        refused(22, "skip(61, 0)", x -> x.skip(61, 0), -1);
        refused(22, "skip(0, 0): NONE", x -> x.skip(0, 0), -4);
        refused(23, "most(0, 61)", x -> x.most(0, 61), -1);
        refused(23, "most(0, 0): NONE", x -> x.most(0, 0), -4);
        refused(24, "kind(0, 61, 0)", x -> x.kind(0, 61, 0), -1);
        refused(25, "luck(11, 0, 1, 0)", x -> x.luck(11, 0, 1, 0), -1);
        refused(26, "mean(11, 1, 0)", x -> x.mean(11, 1, 0), -1);
        refused(29, "kinds(4)", x -> x.kinds(4), -1);
        refused(30, "strengths(4)", x -> x.strengths(4), -1);
        refused(31, "ask(0, 2)", x -> x.ask(0, 2), -1);
        refused(32, "drift(1, 61, 0)", x -> x.drift(1, 61, 0), -1);
        refused(39, "count(6)", x -> x.count(6), -1);
        Edge.of(Edge.TERMS, SENTENCE, "promise 32, drift(1, 1, 0): STATE", () -> {
            LoseLeague x = Check.told("plain 5;");
            String before = Check.state(x);
            Check.due("drift(1, 1, 0)", x.drift(1, 1, 0), -2);
            Check.same("behind it", Check.state(x), before);
        });
    }

    /** The other object's tape is emptied by end(), and its FAULT is told by a text of the same kind of fault. */
    private static void texts() {
        String[] texts = {"!", "wise 3;dog", "wise 3;plain 21;", "wise1;wise1;wise1;wise1;wise1;wise1;", "wise 3;game 0 1;"};
        int[] faults = {1, 2, 3, 5, 6};
        for (int i = 0; i < texts.length; i++) {
            String text = texts[i];
            int fault = faults[i];
            Edge.of(Edge.TERMS, SENTENCE, "promise 4, text() by FAULT " + fault + ": THE TAPE is empty, all else stays", () -> {
                LoseLeague x = full();
                LoseLeague y = full();
                x.end(0);
                y.end(0);
                Check.due("text()", Check.tell(x, text) < -9 ? 1 : 0, 1);
                Check.due("fault()", x.fault(), fault);
                Check.same("behind it", brought(x).replaceFirst("fault \\d", ""), brought(y).replaceFirst("fault \\d", ""));
            });
        }
    }
}
