import java.util.function.ToLongFunction;

/**
 * What is refused changes nothing: of two objects of the same calls one is refused a call more, and
 * then all that the two hold is brought to light, also what only comes to light by changing it.
 */
final class EdgesOfRefusal {
    private static final String SENTENCE = "what is refused changes nothing (but THE TAPE, as told)";

    /** Who LOSES in WEEKS 0, 4, 8 and so on of what is full(). */
    private static final int[] LOSERS = {2, 1, 0, 0, 2, 1};

    private EdgesOfRefusal() {
    }

    static void all() {
        fullFits();
        tape();
        changes();
        seen();
        images();
        sheets();
        asked();
        texts();
        unchanged();
    }

    /** Full of everything: ten FIXTURES, six SEEN, SHEETS 0 to 2, IMAGE 1, a tape of 160 bytes with a text on it. */
    private static LoseLeague full() {
        LoseLeague x = Check.told("plain9;proud6;wise17;careless20;");
        for (int i = 0; i < 4; i++) {
            x.book(i, (i + 1) % 4);
        }
        x.alter(0, 2, 3);
        x.alter(1, 3, 4);
        x.weeks(5);
        x.keep(1);
        for (int i = 0; i < 6; i++) {
            x.book(i % 4, 3 - i % 4);
        }
        for (int i = 0; i < 6; i++) {
            x.see(4 * i, LOSERS[i]);
        }
        for (int k = 0; k < 3; k++) {
            x.sheet(k, k, 4);
            x.lay(k, 1, 1 + k);
            x.lay(k, 2, 2 - k);
            x.lay(k, 3, 3);
        }
        x.read(0, 0, 3, 1);
        Check.tell(x, "!");
        Check.feed(x, " ".repeat(138) + "wise3;proud5;game1 0; ");
        return x;
    }

    private static void league(LoseLeague x, StringBuilder s) {
        int towns = x.rule(0);
        int fixtures = x.rule(1);
        s.append(' ').append(towns).append(' ').append(fixtures).append(' ').append(x.rule(2));
        for (int t = 0; t < towns; t++) {
            for (int what = 0; what <= 3; what++) {
                s.append(what == 0 ? ' ' : ',').append(x.town(t, what));
            }
        }
        for (int i = 0; i < fixtures; i++) {
            s.append(' ').append(x.fixture(i, 0)).append('-').append(x.fixture(i, 1));
        }
    }

    private static void seen(LoseLeague x, StringBuilder s) {
        for (int n = x.count(0); n >= 0; n--) {
            x.forget(n);
            s.append(" seen ").append(n).append(' ').append(x.kinds(3)).append(' ').append(x.strengths(3));
        }
    }

    private static void sheets(LoseLeague x, StringBuilder s) {
        x.strike(0);
        for (int k = 0; k < 4; k++) {
            s.append(" sheet ").append(k);
            for (int lane = 0; lane < 3; lane++) {
                for (int f = 0; f <= 4; f += 2) {
                    int came = x.read(k, lane, f, 1);
                    s.append(' ').append(came).append(' ').append(x.torn());
                    if (came == 0) {
                        break;
                    }
                    if (came == 1) {
                        s.append(' ').append(x.fixture(0, 0)).append('-').append(x.fixture(0, 1));
                        x.strike(0);
                    }
                }
            }
        }
    }

    private static String brought(LoseLeague x) {
        StringBuilder s = new StringBuilder();
        s.append("tape ").append(x.count(2)).append(" fault ").append(x.fault()).append(" torn ").append(x.torn());
        league(x, s);
        seen(x, s);
        sheets(x, s);
        for (int k = 0; k < 2; k++) {
            s.append(" image ").append(k).append(' ').append(x.back(k));
            league(x, s);
        }
        s.append(" text ").append(x.text()).append(' ').append(x.fault());
        league(x, s);
        return s.toString();
    }

    private static void refused(int promise, String call, ToLongFunction<LoseLeague> f, long want) {
        Edge.of(Edge.TERMS, SENTENCE, "promise " + promise + ", " + call, () -> {
            LoseLeague x = full();
            LoseLeague y = full();
            Check.due(call, f.applyAsLong(x), want);
            Check.same("behind it", brought(x), brought(y));
        });
    }

    /** Else a SEEN that is changed would not come to light. */
    private static void fullFits() {
        Edge.of(Edge.TERMS, SENTENCE, "what is full() goes as all that is SEEN in it", () -> {
            LoseLeague x = full();
            for (int t = 0; t < 4; t++) {
                Check.due("its KIND fits, town " + t, x.kinds(t) >> x.town(t, 0) & 1, 1);
            }
            Check.due("SEEN", x.count(0), 6);
            Check.due("FIXTURES", x.rule(1), 10);
            Check.due("bytes", x.count(2), 160);
        });
    }

    private static void tape() {
        refused(2, "feed(-1)", x -> x.feed(-1), -1);
        refused(2, "feed(128)", x -> x.feed(128), -1);
        refused(2, "feed(33): FULL", x -> x.feed('!'), -3);
        refused(3, "end(-1)", x -> x.end(-1), -1);
        refused(3, "end(161)", x -> x.end(161), -1);
    }

    private static void changes() {
        refused(10, "alter(-1, 1, 1)", x -> x.alter(-1, 1, 1), -1);
        refused(10, "alter(4, 1, 1)", x -> x.alter(4, 1, 1), -1);
        refused(10, "alter(0, 4, 1)", x -> x.alter(0, 4, 1), -1);
        refused(10, "alter(0, -1, 1)", x -> x.alter(0, -1, 1), -1);
        for (int what = 0; what <= 3; what++) {
            int w = what;
            int most = new int[] {3, 20, 99, 99}[what];
            refused(10, "alter(0, " + w + ", " + (most + 1) + ")", x -> x.alter(0, w, most + 1), -1);
            refused(10, "alter(0, " + w + ", -1)", x -> x.alter(0, w, -1), -1);
        }
        refused(11, "lend(0, 0, 1)", x -> x.lend(0, 0, 1), -1);
        refused(11, "lend(0, 4, 1)", x -> x.lend(0, 4, 1), -1);
        refused(11, "lend(4, 0, 1)", x -> x.lend(4, 0, 1), -1);
        refused(11, "lend(3, 1, 21)", x -> x.lend(3, 1, 21), -1);
        refused(11, "lend(3, 1, -1)", x -> x.lend(3, 1, -1), -1);
        refused(11, "lend(0, 1, 20): STATE", x -> x.lend(0, 1, 20), -2);
        refused(11, "lend(3, 2, 10): FULL", x -> x.lend(3, 2, 10), -3);
        refused(12, "book(1, 1)", x -> x.book(1, 1), -1);
        refused(12, "book(1, 4)", x -> x.book(1, 4), -1);
        refused(12, "book(0, 1): FULL", x -> x.book(0, 1), -3);
        refused(13, "strike(11)", x -> x.strike(11), -1);
        refused(13, "strike(-1)", x -> x.strike(-1), -1);
        refused(14, "weeks(31)", x -> x.weeks(31), -1);
        refused(14, "weeks(-1)", x -> x.weeks(-1), -1);
        Edge.of(Edge.TERMS, SENTENCE, "promise 12, book(1, 1), not yet FULL", () -> {
            LoseLeague x = Check.told("plain 5;plain 4;game 0 1;");
            String before = Check.state(x);
            Check.due("book(1, 1)", x.book(1, 1), -1);
            Check.due("book(0, 2)", x.book(0, 2), -1);
            Check.same("behind it", Check.state(x), before);
        });
        Edge.of(Edge.TERMS, SENTENCE, "promise 14, weeks(30): FULL", () -> {
            LoseLeague x = Check.told("plain 5;plain 4;game 0 1;game 0 1;");
            Edge.passWeeks(x, 997);
            String before = Check.state(x);
            Check.due("weeks(30)", x.weeks(30), -3);
            Check.due("weeks(3)", x.weeks(3), -3);
            Check.same("behind it", Check.state(x), before);
        });
    }

    private static void seen() {
        refused(27, "see(21, 9)", x -> x.see(21, 9), -1);
        refused(27, "see(0, 4)", x -> x.see(0, 4), -1);
        refused(27, "see(0, 0): FULL", x -> x.see(0, 0), -3);
        refused(28, "forget(7)", x -> x.forget(7), -1);
        refused(28, "forget(-1)", x -> x.forget(-1), -1);
        Edge.of(Edge.TERMS, SENTENCE, "promise 27, see(21, 9), not yet FULL", () -> {
            LoseLeague x = Check.told("plain 5;plain 4;game 0 1;");
            x.see(0, 9);
            String before = Check.state(x);
            Check.due("see(21, 9)", x.see(21, 9), -1);
            Check.due("see(0, 2)", x.see(0, 2), -1);
            Check.same("behind it", Check.state(x), before);
        });
    }

    private static void images() {
        refused(33, "keep(2)", x -> x.keep(2), -1);
        refused(33, "keep(-1)", x -> x.keep(-1), -1);
        refused(34, "back(2)", x -> x.back(2), -1);
        refused(34, "back(-1)", x -> x.back(-1), -1);
        refused(34, "back(0): STATE", x -> x.back(0), -2);
    }

    private static void sheets() {
        refused(35, "sheet(4, 0, 1)", x -> x.sheet(4, 0, 1), -1);
        refused(35, "sheet(0, 3, 1)", x -> x.sheet(0, 3, 1), -1);
        refused(35, "sheet(0, 0, 41)", x -> x.sheet(0, 0, 41), -1);
        refused(35, "sheet(0, 1, -1): SIZE", x -> x.sheet(0, 1, -1), -14);
        refused(35, "sheet(3, 1, -1): SIZE, of nothing", x -> x.sheet(3, 1, -1), -14);
        refused(36, "lay(4, 0, 1)", x -> x.lay(4, 0, 1), -1);
        refused(36, "lay(3, 0, 1): NULL", x -> x.lay(3, 0, 1), -11);
        refused(36, "lay(0, 4, 1): INDEX", x -> x.lay(0, 4, 1), -12);
        refused(36, "lay(0, -1, 1): INDEX", x -> x.lay(0, -1, 1), -12);
        refused(37, "read(4, 0, 0, 1)", x -> x.read(4, 0, 0, 1), -1);
        refused(37, "read(0, 3, 0, 1)", x -> x.read(0, 3, 0, 1), -1);
        refused(37, "read(0, 0, 0, 21)", x -> x.read(0, 0, 0, 21), -1);
        refused(37, "read(0, 0, 0, 1): book() is FULL", x -> x.read(0, 0, 0, 1), -20);
        Edge.of(Edge.TERMS, SENTENCE, "promise 37, read(0, 0, 0, 2): the second is refused by book()", () -> {
            LoseLeague x = Check.told("plain 5;plain 4;game 0 1;");
            x.sheet(0, 0, 4);
            x.lay(0, 0, 1);
            x.lay(0, 2, 1);
            x.lay(0, 3, 1);
            String before = Check.state(x);
            Check.due("read(0, 0, 0, 2)", x.read(0, 0, 0, 2), -21);
            Check.same("behind it", Check.state(x), before);
        });
    }

    private static void asked() {
        refused(6, "rule(6)", x -> x.rule(6), -1);
        refused(7, "town(4, 0)", x -> x.town(4, 0), -1);
        refused(8, "fixture(10, 0)", x -> x.fixture(10, 0), -1);
        refused(9, "game(1, 1)", x -> x.game(1, 1), -1);
        refused(15, "runs(61, 0)", x -> x.runs(61, 0), -1);
        refused(16, "ahead(0, 61, 0)", x -> x.ahead(0, 61, 0), -1);
        refused(17, "loser(61)", x -> x.loser(61), -1);
        refused(18, "loses(4)", x -> x.loses(4), -1);
        refused(19, "order(15)", x -> x.order(15), -1);
        refused(19, "order(0): STATE", x -> x.order(0), -2);
        refused(20, "loan(61, 0)", x -> x.loan(61, 0), -1);
        refused(20, "loan(0, 0): NONE", x -> x.loan(0, 0), -4);
        refused(21, "swap(61, 0)", x -> x.swap(61, 0), -1);
        refused(21, "swap(0, 0): NONE", x -> x.swap(0, 0), -4);
        refused(22, "skip(61, 0)", x -> x.skip(61, 0), -1);
        refused(22, "skip(0, 0): NONE", x -> x.skip(0, 0), -4);
        refused(23, "most(0, 61)", x -> x.most(0, 61), -1);
        refused(23, "most(0, 0): NONE", x -> x.most(0, 0), -4);
        refused(24, "kind(0, 61, 0)", x -> x.kind(0, 61, 0), -1);
        refused(25, "luck(11, 0, 1, 0)", x -> x.luck(11, 0, 1, 0), -1);
        refused(26, "mean(11, 1, 0)", x -> x.mean(11, 1, 0), -1);
        refused(29, "kinds(4)", x -> x.kinds(4), -1);
        refused(30, "strengths(4)", x -> x.strengths(4), -1);
        refused(31, "ask(0, 2)", x -> x.ask(0, 2), -1);
        refused(32, "drift(1, 61, 0)", x -> x.drift(1, 61, 0), -1);
        refused(39, "count(6)", x -> x.count(6), -1);
        Edge.of(Edge.TERMS, SENTENCE, "promise 32, drift(1, 1, 0): STATE", () -> {
            LoseLeague x = Check.told("plain 5;");
            String before = Check.state(x);
            Check.due("drift(1, 1, 0)", x.drift(1, 1, 0), -2);
            Check.same("behind it", Check.state(x), before);
        });
    }

    /** The other object's tape is emptied by end(); fault() is asked by itself, as the two differ in it. */
    private static void texts() {
        String[] texts = {"!", "wise 3;dog", "wise 3;plain 21;", "wise1;wise1;wise1;wise1;wise1;wise1;", "wise 3;game 0 1;"};
        int[] faults = {1, 2, 3, 5, 6};
        for (int i = 0; i < texts.length; i++) {
            String text = texts[i];
            int fault = faults[i];
            Edge.of(Edge.TERMS, SENTENCE, "promise 4, text() by FAULT " + fault + ": THE TAPE is empty, all else stays", () -> {
                LoseLeague x = full();
                LoseLeague y = full();
                x.end(0);
                y.end(0);
                Check.due("text()", Check.tell(x, text) < -9 ? 1 : 0, 1);
                Check.due("fault()", x.fault(), fault);
                Check.same("behind it", brought(x).replaceFirst("fault \\d", ""), brought(y).replaceFirst("fault \\d", ""));
            });
        }
    }

    private static void stays(int promise, String sentence, String call, ToLongFunction<LoseLeague> f) {
        Edge.of(promise, sentence, call + ": it is answered, nothing is changed", () -> {
            LoseLeague x = full();
            LoseLeague y = full();
            long got = f.applyAsLong(x);
            Check.due("refused", got == -1 || got == -2 ? 1 : 0, 0);
            Check.same("behind it", brought(x), brought(y));
        });
    }

    private static void unchanged() {
        stays(5, "The FAULT of the latest text()", "fault()", x -> x.fault());
        stays(6, "the FIXTURE of this WEEK", "rule(3)", x -> x.rule(3));
        stays(7, "Of a TOWN", "town(3, 4)", x -> x.town(3, 4));
        stays(8, "Of a FIXTURE", "fixture(9, 1)", x -> x.fixture(9, 1));
        stays(9, "Who LOSES, if two TOWNS play now.", "game(0, 3)", x -> x.game(0, 3));
        stays(15, "BY WEEKS, n of them", "runs(60, 2)", x -> x.runs(60, 2));
        stays(16, "BY WEEKS, n of them", "ahead(0, 60, 0)", x -> x.ahead(0, 60, 0));
        stays(17, "BY WEEKS: who LOSES in WEEK n", "loser(60)", x -> x.loser(60));
        stays(18, "BY WEEKS: the first WEEK (0 to 60) in which a TOWN LOSES", "loses(3)", x -> x.loses(3));
        stays(19, "The order of FIXTURES", "order(14)", EdgesOfRefusal::orderOfFive);
        stays(20, "Who had better lend 1", "loan(60, 0)", x -> x.loan(60, 0));
        stays(21, "Two FIXTURES that are to change places", "swap(60, 0)", x -> x.swap(60, 0));
        stays(22, "The FIXTURE that had better be rained off", "skip(60, 0)", x -> x.skip(60, 0));
        stays(23, "The greatest STRENGTH (0 to 20) of a TOWN", "most(0, 60)", x -> x.most(0, 60));
        stays(24, "The KIND of a TOWN by which OWED is least", "kind(0, 60, 0)", x -> x.kind(0, 60, 0));
        stays(25, "that a TOWN LOSES in any of them", "luck(3, 0, 8, 0)", x -> x.luck(3, 0, 8, 0));
        stays(26, "the mean of OWED behind them", "mean(3, 8, 0)", x -> x.mean(3, 8, 0));
        stays(29, "KINDS of a TOWN (bits)", "kinds(0)", x -> x.kinds(0));
        stays(30, "STRENGTHS of a TOWN (bits 0 to 20)", "strengths(0)", x -> x.strengths(0));
        stays(31, "The WEEK (0 to 20) in which to look", "ask(0, 0)", x -> x.ask(0, 0));
        stays(32, "By itself (as it would be; nothing is changed)", "drift(3, 60, 0)", x -> x.drift(3, 60, 0));
        stays(38, "The FAULT of the latest read()", "torn()", x -> x.torn());
        stays(39, "STRENGTH of all TOWNS", "count(4)", x -> x.count(4));
        stays(3, "THE TAPE keeps its first n bytes", "end(160) of 160", x -> x.end(160));
        stays(11, "A TOWN lends n (0 to 20)", "lend(0, 1, 0)", x -> x.lend(0, 1, 0));
        stays(13, "FIXTURES are the first n alone", "strike(10) of ten", x -> x.strike(10));
        stays(14, "n WEEKS (0 to 30)", "weeks(0)", x -> x.weeks(0));
        stays(28, "SEEN are the first n alone", "forget(6) of six", x -> x.forget(6));
    }

    /** What is full has ten FIXTURES: to be ordered it has to go on with the five of which WEEK 5 begins a YEAR. */
    private static long orderOfFive(LoseLeague x) {
        int[] firsts = new int[5];
        int[] seconds = new int[5];
        for (int i = 0; i < 5; i++) {
            firsts[i] = x.fixture(5 + i, 0);
            seconds[i] = x.fixture(5 + i, 1);
        }
        x.strike(5);
        long answer = x.order(14);
        for (int i = 0; i < 5; i++) {
            x.book(firsts[i], seconds[i]);
        }
        return answer;
    }
}
