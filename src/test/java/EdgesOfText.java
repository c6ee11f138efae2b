/** Boundary cases of promises 1 to 5, and of the text that the terms tell of. */
final class EdgesOfText {
    private static final String FIVE = "plain1;plain1;plain1;plain1;plain1;";
    private static final String TEN = "game0 1;".repeat(10);
    private static final String[] KINDS = {"plain", "proud", "wise", "careless"};

    private EdgesOfText() {
    }

    static void all() {
        newObject();
        feed();
        end();
        text();
        fault();
        bounds();
        blanks();
        tokens();
        firstFault();
        noToken();
        outOfPlace();
        outOfBounds();
        tooMany();
        noTown();
        tellsAll();
    }

    private static void taken(String text, int lines) {
        LoseLeague x = new LoseLeague();
        Check.due("'" + text + "'", Check.tell(x, text), lines);
        Check.due("fault() of '" + text + "'", x.fault(), 0);
    }

    private static void refused(String text, int fault, int place) {
        LoseLeague x = new LoseLeague();
        Check.due("'" + text + "'", Check.tell(x, text), -10 - place);
        Check.due("fault() of '" + text + "'", x.fault(), fault);
    }

    private static LoseLeague fed(int bytes, int c) {
        LoseLeague x = new LoseLeague();
        for (int i = 0; i < bytes; i++) {
            x.feed(c);
        }
        return x;
    }

    private static void newObject() {
        Edge.of(1, "No TOWNS, no FIXTURES; SHEETS have nothing.", "no TOWNS", () -> {
            LoseLeague x = new LoseLeague();
            Check.due("rule(0)", x.rule(0), 0);
            Check.due("town(0, 0)", x.town(0, 0), -1);
            Check.due("see(0, 0)", x.see(0, 0), -1);
            Check.due("drift(1, 1, 0)", x.drift(1, 1, 0), -2);
        });
        Edge.of(1, "No TOWNS, no FIXTURES; SHEETS have nothing.", "no FIXTURES", () -> {
            LoseLeague x = new LoseLeague();
            Check.due("rule(1)", x.rule(1), 0);
            Check.due("fixture(0, 0)", x.fixture(0, 0), -1);
            Check.due("strike(0)", x.strike(0), 0);
            Check.due("strike(1)", x.strike(1), -1);
        });
        Edge.of(1, "SHEETS have nothing", "each of the four", () -> {
            LoseLeague x = new LoseLeague();
            Check.due("count(3)", x.count(3), -4);
            for (int k = 0; k < 4; k++) {
                Check.due("lay(" + k + ", 0, 0)", x.lay(k, 0, 0), -11);
                Check.due("read(" + k + ", 0, 0, 1)", x.read(k, 0, 0, 1), 0);
                Check.due("torn()", x.torn(), 1);
            }
        });
        Edge.of(Edge.TERMS, "WEEK (0 at first)", "a new object", () -> {
            Check.due("rule(2)", new LoseLeague().rule(2), 0);
        });
        Edge.of(Edge.TERMS, "with LOSSES (0 to 99; 0 at first) of this YEAR, that OWES (0 to 99; 0 at first)",
            "0 at first", () -> {
                for (String kind : KINDS) {
                    LoseLeague x = Check.told(kind + " 20;");
                    Check.due(kind + " LOSSES", x.town(0, 2), 0);
                    Check.due(kind + " OWES", x.town(0, 3), 0);
                }
            });
        Edge.of(1, "No TOWNS, no FIXTURES; SHEETS have nothing.", "what another one was told is not here", () -> {
            LoseLeague other = Check.told(FIVE + TEN);
            other.weeks(9);
            other.see(0, 9);
            other.keep(0);
            other.sheet(0, 0, 9);
            other.feed('a');
            LoseLeague x = new LoseLeague();
            for (int what = 0; what <= 5; what++) {
                Check.due("rule(" + what + ")", x.rule(what), what == 3 ? -4 : 0);
                Check.due("count(" + what + ")", x.count(what), what == 3 ? -4 : 0);
            }
        });
    }

    private static void feed() {
        Edge.of(2, "A byte (0 to 127) comes behind THE TAPE", "the last at both ends are taken", () -> {
            LoseLeague x = new LoseLeague();
            Check.due("feed(0)", x.feed(0), 1);
            Check.due("feed(127)", x.feed(127), 2);
            Check.due("feed(1)", x.feed(1), 3);
            Check.due("feed(126)", x.feed(126), 4);
        });
        Edge.of(2, "A byte (0 to 127) comes behind THE TAPE", "the first at both ends that are not; wrapped ones", () -> {
            LoseLeague x = new LoseLeague();
            Edge.bad("feed(#)", x::feed, -1, 128, 129, 255, 256, 256 + 97, -128, -159, 65536 + 97, Edge.MIN, Edge.MAX);
            Check.due("bytes", x.count(2), 0);
        });
        Edge.of(2, "how many it has", "from nothing to all of it", () -> {
            LoseLeague x = new LoseLeague();
            for (int i = 1; i <= 160; i++) {
                Check.due("the " + i + ".", x.feed('a'), i);
            }
        });
        Edge.of(2, "FULL: more than 160", "the 160th comes, the 161st does not", () -> {
            LoseLeague x = fed(159, ' ');
            Check.due("the 160th", x.feed(' '), 160);
            Check.due("the 161st", x.feed(' '), -3);
            Check.due("again", x.feed(' '), -3);
            Check.due("bytes", x.count(2), 160);
        });
        Edge.of(2, "FULL: more than 160", "one less, one more may come", () -> {
            LoseLeague x = fed(160, ' ');
            x.end(159);
            Check.due("feed(32)", x.feed(' '), 160);
            Check.due("feed(32)", x.feed(' '), -3);
        });
        Edge.of(2, "FULL: more than 160", "what is refused is not on it, and covers nothing that is", () -> {
            LoseLeague x = fed(159, ' ');
            x.feed('!');
            x.feed(' ');
            Check.due("the fault is the 160th byte", x.text(), -169);
            x = fed(160, ' ');
            x.feed('!');
            Check.due("blanks alone", x.text(), 0);
        });
        Edge.of(2, "BAD; FULL", "BAD comes first", () -> {
            LoseLeague x = fed(160, ' ');
            Check.due("feed(128)", x.feed(128), -1);
            Check.due("feed(-1)", x.feed(-1), -1);
            Check.due("feed(127)", x.feed(127), -3);
        });
    }

    private static void end() {
        Edge.of(3, "BAD (n above that, too)", "nothing there", () -> {
            LoseLeague x = new LoseLeague();
            Check.due("end(0)", x.end(0), 0);
            Edge.bad("end(#)", x::end, -1, 1, Edge.MIN, Edge.MAX);
        });
        Edge.of(3, "BAD (n above that, too)", "all there", () -> {
            LoseLeague x = fed(160, ' ');
            Edge.bad("end(#)", x::end, -1, 161, Edge.MIN, Edge.MAX);
            Check.due("end(160)", x.end(160), 160);
            Check.due("bytes", x.count(2), 160);
        });
        Edge.of(3, "BAD (n above that, too)", "above what it has, not above what it may have", () -> {
            LoseLeague x = fed(3, ' ');
            Edge.bad("end(#)", x::end, 4, 160);
            Check.due("end(3)", x.end(3), 3);
            Check.due("end(2)", x.end(2), 3);
            Edge.bad("end(#)", x::end, 3);
            Check.due("bytes", x.count(2), 2);
        });
        Edge.of(3, "THE TAPE keeps its first n bytes", "none and the first", () -> {
            LoseLeague x = new LoseLeague();
            Check.feed(x, "wise 7;!");
            Check.due("end(7)", x.end(7), 8);
            Check.due("the first ones stay", x.text(), 1);
            Check.feed(x, "!");
            Check.due("end(0)", x.end(0), 1);
            Check.due("none is left", x.text(), 0);
        });
        Edge.of(3, "how many it had", "not how many it has", () -> {
            LoseLeague x = fed(160, ' ');
            Check.due("end(1)", x.end(1), 160);
            Check.due("end(0)", x.end(0), 1);
            Check.due("end(0)", x.end(0), 0);
        });
    }

    private static void text() {
        Edge.of(4, "THE TAPE (empty then, also by a FAULT)", "empty", () -> {
            LoseLeague x = Check.told("plain 5;");
            Check.due("bytes", x.count(2), 0);
            Check.due("feed comes first on it", x.feed('a'), 1);
        });
        Edge.of(4, "THE TAPE (empty then, also by a FAULT)", "also by each FAULT", () -> {
            String[] texts = {"!", "dog", "plain 21;", FIVE + "plain 1;", "game 0 1;", " ".repeat(159) + "!"};
            for (String text : texts) {
                LoseLeague x = new LoseLeague();
                Check.tell(x, text);
                Check.due("'" + text + "', bytes", x.count(2), 0);
                Check.due("the next text", x.text(), 0);
            }
        });
        Edge.of(4, "tells all: how many lines", "none", () -> {
            taken("", 0);
            taken(" ", 0);
            taken(" ".repeat(160), 0);
        });
        Edge.of(4, "tells all: how many lines", "one, all that may be", () -> {
            taken("plain 1;", 1);
            taken("plain 1;plain 1;", 2);
            taken(FIVE + TEN, 15);
            taken(FIVE + TEN + " ".repeat(45), 15);
        });
        Edge.of(4, "-10 less the place of its FAULT", "the first place, the last one, the length of all", () -> {
            refused("!", 1, 0);
            refused(" ".repeat(159) + "!", 1, 159);
            refused(" ".repeat(153) + "plain 5", 2, 160);
            refused(" ".repeat(151) + "game 0 1;", 6, 160);
        });
        Edge.of(4, "that which was told stays", "by each FAULT", () -> {
            String[] texts = {"!", "wise 3;dog", "wise 3;plain 21;", FIVE + "plain 1;", "wise 3;game 0 1;"};
            for (String text : texts) {
                LoseLeague x = Check.told("proud 4;careless 9;game 1 0;");
                x.weeks(3);
                x.see(0, 9);
                x.keep(1);
                x.sheet(0, 1, 2);
                String before = Check.state(x).replaceAll("fault=.*", "");
                Check.due("'" + text + "' is refused", Check.tell(x, text) < -9 ? 1 : 0, 1);
                Check.same("behind '" + text + "'", Check.state(x).replaceAll("fault=.*", ""), before);
                Check.due("the IMAGE behind '" + text + "'", x.back(1), 3);
            }
        });
    }

    private static void fault() {
        Edge.of(5, "The FAULT of the latest text(); 0.", "no text yet", () -> {
            LoseLeague x = new LoseLeague();
            Check.due("fault()", x.fault(), 0);
            x.feed('!');
            Check.due("fault()", x.fault(), 0);
            Check.due("text()", x.text(), -10);
        });
        Edge.of(5, "The FAULT of the latest text(); 0.", "the latest, not one ahead of it", () -> {
            LoseLeague x = new LoseLeague();
            Check.tell(x, "!");
            Check.due("fault()", x.fault(), 1);
            Check.tell(x, "dog");
            Check.due("fault()", x.fault(), 2);
            x.feed('!');
            x.end(0);
            x.feed(200);
            Check.due("until the next one", x.fault(), 2);
            x.text();
            Check.due("one that is taken, though empty", x.fault(), 0);
        });
    }

    private static void bounds() {
        Edge.of(Edge.TERMS, "TOWNS (5 at most)", "five, not six, of whichever KIND", () -> {
            for (String kind : KINDS) {
                taken("plain1;plain1;plain1;plain1;" + kind + " 1;", 5);
                refused(FIVE + kind + " 1;", 5, 35);
            }
            LoseLeague x = Check.told(FIVE);
            Check.due("rule(0)", x.rule(0), 5);
            Check.due("town(4, 1)", x.town(4, 1), 1);
            Check.due("town(5, 1)", x.town(5, 1), -1);
        });
        Edge.of(Edge.TERMS, "FIXTURES (10 at most)", "ten, not eleven", () -> {
            LoseLeague x = Check.told(FIVE + TEN);
            Check.due("rule(1)", x.rule(1), 10);
            Check.due("fixture(9, 1)", x.fixture(9, 1), 1);
            Check.due("fixture(10, 1)", x.fixture(10, 1), -1);
            refused(FIVE + TEN + "game0 1;", 5, 115);
        });
        Edge.of(Edge.TERMS, "THE TAPE has 160 bytes, places from 0", "a text as long as it", () -> {
            taken(" ".repeat(152) + "wise 20;", 1);
            LoseLeague x = new LoseLeague();
            Check.feed(x, " ".repeat(153) + "wise 20;");
            Check.due("the sign did not come: the end", x.text(), -170);
        });
        Edge.of(Edge.TERMS, "of a STRENGTH (0 to 20)", "told by a text", () -> {
            for (String kind : KINDS) {
                Check.due(kind + " 0", Check.told(kind + " 0;").town(0, 1), 0);
                Check.due(kind + " 20", Check.told(kind + " 20;").town(0, 1), 20);
                refused(kind + " 21;", 3, kind.length() + 1);
                refused(kind + " 99;", 3, kind.length() + 1);
            }
        });
        Edge.of(Edge.TERMS, "(0 plain, 1 proud, 2 wise, 3 careless)", "told by a text", () -> {
            for (int k = 0; k < 4; k++) {
                Check.due(KINDS[k], Check.told(KINDS[k] + " 5;").town(0, 0), k);
            }
        });
        Edge.of(Edge.TERMS, "game: a FIXTURE more: two TOWNS (0 to 4 each)", "at both ends", () -> {
            LoseLeague x = Check.told(FIVE + "game 0 4;game 4 0;");
            Check.due("0 and 4", x.fixture(0, 0) * 10 + x.fixture(0, 1), 4);
            Check.due("4 and 0", x.fixture(1, 0) * 10 + x.fixture(1, 1), 40);
            refused(FIVE + "game 5 0;", 3, 40);
            refused(FIVE + "game 0 5;", 3, 42);
        });
    }

    private static void blanks() {
        Edge.of(Edge.TERMS, "any number of blanks (32) ahead of, between, behind them", "none, one, many", () -> {
            taken("wise5;wise6;game0 1;", 3);
            taken(" wise 5 ; wise 6 ; game 0 1 ; ", 3);
            String many = " ".repeat(30);
            taken(many + "wise" + many + "5" + many + ";" + many, 1);
        });
        Edge.of(Edge.TERMS, "any number of blanks (32) ahead of, between, behind them", "no byte but 32 is a blank", () -> {
            for (int c : new int[] {0, 8, 9, 10, 11, 12, 13, 31, 33, 95, 127}) {
                refused((char) c + "wise 5;", 1, 0);
                refused("wise" + (char) c + "5;", 1, 4);
                refused("wise 5;" + (char) c, 1, 7);
            }
        });
        Edge.of(Edge.TERMS, "(one at least between two NAMES, between two NUMBERS; else none is needed)", "two NUMBERS", () -> {
            taken(FIVE + "game0 1;", 6);
            refused("game 01;", 2, 7);
            refused("game01 ;", 2, 7);
        });
        Edge.of(Edge.TERMS, "(one at least between two NAMES, between two NUMBERS; else none is needed)", "two NAMES", () -> {
            refused("wisewise 5;", 2, 0);
            refused("wise wise 5;", 2, 5);
        });
        Edge.of(Edge.TERMS, "(one at least between two NAMES, between two NUMBERS; else none is needed)", "else none", () -> {
            taken("wise5;", 1);
            taken("wise5;proud6;game0 1;game1 0;", 4);
        });
    }

    private static void tokens() {
        Edge.of(Edge.TERMS, "TOKENS, each as long as may be", "a NAME that begins with one of a line", () -> {
            refused("plainx 5;", 2, 0);
            refused("gamea 0 1;", 2, 0);
            refused("wis 5;", 2, 0);
            refused("wis e5;", 2, 0);
            refused("p", 2, 0);
        });
        Edge.of(Edge.TERMS, "TOKENS, each as long as may be", "three figures are one NUMBER, not two", () -> {
            refused("game 001;", 1, 5);
            refused("wise 100;", 1, 5);
        });
        Edge.of(Edge.TERMS, "NAMES (a .. z)", "each letter, and the bytes next to them", () -> {
            for (char c = 'a'; c <= 'z'; c++) {
                refused("wise" + c + " 5;", 2, 0);
                refused(c + "wise 5;", 2, 0);
            }
            refused("`", 1, 0);
            refused("{", 1, 0);
            refused("wise`5;", 1, 4);
            refused("wise{5;", 1, 4);
        });
        Edge.of(Edge.TERMS, "NAMES (a .. z)", "no great letters", () -> {
            for (char c = 'A'; c <= 'Z'; c++) {
                refused(String.valueOf(c), 1, 0);
            }
            refused("wisE 5;", 2, 0);
        });
        Edge.of(Edge.TERMS, "NUMBERS (1 or 2 figures)", "one, two, each figure", () -> {
            for (int s = 0; s <= 20; s++) {
                Check.due("wise " + s, Check.told("wise " + s + ";").town(0, 1), s);
            }
            for (int s = 0; s <= 9; s++) {
                Check.due("wise 0" + s, Check.told("wise 0" + s + ";").town(0, 1), s);
            }
        });
        Edge.of(Edge.TERMS, "NUMBERS (1 or 2 figures)", "the bytes next to the figures", () -> {
            refused("wise /;", 1, 5);
            refused("wise 1/;", 1, 6);
            refused("wise :;", 1, 5);
            refused("wise 1:;", 1, 6);
        });
        Edge.of(Edge.TERMS, "the sign ; (every other byte is no TOKEN)", "every byte by itself", () -> {
            for (int c = 0; c <= 127; c++) {
                boolean token = c >= 'a' && c <= 'z' || c >= '0' && c <= '9' || c == ';';
                LoseLeague x = new LoseLeague();
                x.feed(c);
                Check.due("byte " + c, x.text(), c == ' ' ? 0 : -10);
                Check.due("byte " + c + ", fault()", x.fault(), c == ' ' ? 0 : token ? 2 : 1);
            }
        });
        Edge.of(Edge.TERMS, "text: { line }   line: K N ; | game N N ;   K: plain | proud | wise | careless",
            "nothing may be missing, nothing may be more", () -> {
                for (String kind : KINDS) {
                    int n = kind.length();
                    refused(kind + ";", 2, n);
                    refused(kind + " 5", 2, n + 2);
                    refused(kind + " 5 5;", 2, n + 3);
                    refused(kind + " 5;;", 2, n + 3);
                }
                refused("game ;", 2, 5);
                refused("game 0;", 2, 6);
                refused("game 0 1", 2, 8);
                refused("game 0 1 2;", 2, 9);
                refused(";", 2, 0);
            });
    }

    private static void firstFault() {
        String sentence = "FAULTS, the first met as it is read (a TOKEN is read when the one before has been taken)";
        Edge.of(Edge.TERMS, sentence, "out of bounds, ahead of what is no TOKEN behind it", () -> {
            refused("wise 21!", 3, 5);
            refused("game 5!", 3, 5);
            refused("game 0 5!", 3, 7);
            refused("game 1 1!", 3, 7);
            refused("wise 21 123", 3, 5);
        });
        Edge.of(Edge.TERMS, sentence, "out of place, ahead of what is no TOKEN behind it", () -> {
            refused("dog!", 2, 0);
            refused("wise;!", 2, 4);
            refused("wise 5 5!", 2, 7);
            refused("5!", 2, 0);
            refused(";123", 2, 0);
        });
        Edge.of(Edge.TERMS, sentence, "what is no TOKEN, where none could stand either", () -> {
            refused("123", 1, 0);
            refused("wise 5 123", 1, 7);
            refused("wise 5 123;", 1, 7);
            refused("game 0 1 123;", 1, 9);
            refused("game 123 0;", 1, 5);
            refused("game 0 123;", 1, 7);
            refused("wise !", 1, 5);
            refused("game 0 1 !", 1, 9);
        });
        Edge.of(Edge.TERMS, sentence, "the first line that has one", () -> {
            refused("wise 21;wise 22;", 3, 5);
            refused("wise 5;dog;!", 2, 7);
            refused("wise 5;!dog", 1, 7);
        });
        Edge.of(Edge.TERMS, sentence, "too many, ahead of what stands behind its NAME", () -> {
            refused(FIVE + "wise!", 5, 35);
            refused(FIVE + "wise", 5, 35);
            refused(FIVE + "wise;", 5, 35);
            refused(FIVE + "wise 21;", 5, 35);
            refused(TEN + "game!", 5, 80);
            refused(TEN + "game", 5, 80);
            refused(TEN + "game 5 5;", 5, 80);
        });
        Edge.of(Edge.TERMS, sentence, "what begins no line is not too many", () -> {
            refused(FIVE + "dog", 2, 35);
            refused(FIVE + TEN + "dog", 2, 115);
            refused(FIVE + TEN + ";", 2, 115);
            refused(FIVE + TEN + "!", 1, 115);
        });
        Edge.of(Edge.TERMS, sentence, "a TOWN that there is not, behind all others", () -> {
            refused("game 0 1;!", 1, 9);
            refused("game 0 1;dog", 2, 9);
            refused("game 0 1;wise", 2, 13);
            refused("game 0 1;wise 21;", 3, 14);
            refused(TEN + "game 0 1;", 5, 80);
        });
    }

    private static void noToken() {
        Edge.of(Edge.TERMS, "1 no TOKEN, a NUMBER that is too long (its first byte)", "two figures are not, three are", () -> {
            taken("wise 20;", 1);
            refused("wise 200;", 1, 5);
            refused("wise 020;", 1, 5);
            refused("wise 000;", 1, 5);
            refused("game 000 1;", 1, 5);
            refused("game 0 001;", 1, 7);
        });
        Edge.of(Edge.TERMS, "1 no TOKEN, a NUMBER that is too long (its first byte)", "so long that it would wrap around", () -> {
            refused("wise 4294967301;", 1, 5);
            refused("wise 18446744073709551621;", 1, 5);
            refused("wise" + "0".repeat(155) + "5", 1, 4);
            refused("9".repeat(160), 1, 0);
        });
        Edge.of(Edge.TERMS, "1 no TOKEN, a NUMBER that is too long (its first byte)", "where it begins, behind blanks", () -> {
            refused("wise    123;", 1, 8);
            refused("   !", 1, 3);
        });
    }

    private static void outOfPlace() {
        String sentence = "2 a TOKEN that can not stand there (a NAME that begins no line; or the end: the length)";
        Edge.of(Edge.TERMS, sentence, "a NAME that begins no line", () -> {
            refused("dog 5;", 2, 0);
            refused("  dog 5;", 2, 2);
            refused("wise 5; dog", 2, 8);
            refused("town 5;", 2, 0);
        });
        Edge.of(Edge.TERMS, sentence, "a NAME of one letter less, more, another one", () -> {
            for (String word : new String[] {"plain", "proud", "wise", "careless", "game"}) {
                for (int i = 0; i < word.length(); i++) {
                    refused(word.substring(0, i) + "x" + word.substring(i + 1) + " 0 1;", 2, 0);
                    refused(word.substring(0, i) + word.substring(i + 1) + " 0 1;", 2, 0);
                    refused(word.substring(0, i) + "x" + word.substring(i) + " 0 1;", 2, 0);
                }
                refused(word + "x 0 1;", 2, 0);
            }
        });
        Edge.of(Edge.TERMS, sentence, "the end: the length, with the blanks there", () -> {
            refused("wise", 2, 4);
            refused("wise  ", 2, 6);
            refused("wise 5", 2, 6);
            refused("wise 5   ", 2, 9);
            refused("game", 2, 4);
            refused("game 0 ", 2, 7);
            refused("game 0 1 ", 2, 9);
        });
        Edge.of(Edge.TERMS, sentence, "the end between two lines is none", () -> {
            taken("wise 5;", 1);
            taken("wise 5;   ", 1);
            taken("   ", 0);
        });
    }

    private static void outOfBounds() {
        String sentence = "3 a NUMBER out of its bounds (game: the second TOWN alike with the first)";
        Edge.of(Edge.TERMS, sentence, "STRENGTH 20 is not, 21 is", () -> {
            taken("wise 20;", 1);
            refused("wise 21;", 3, 5);
            refused("wise  99;", 3, 6);
        });
        Edge.of(Edge.TERMS, sentence, "TOWN 4 is not, 5 is, the first and the second", () -> {
            taken("game 4 3;game 3 4;" + FIVE, 7);
            refused("game 5 4;", 3, 5);
            refused("game 4 5;", 3, 7);
            refused("game 10 0;", 3, 5);
            refused("game 0 10;", 3, 7);
        });
        Edge.of(Edge.TERMS, sentence, "alike: at the second", () -> {
            for (int t = 0; t <= 4; t++) {
                refused(FIVE + "game " + t + " " + t + ";", 3, 42);
                refused(FIVE + "game 0" + t + " " + t + ";", 3, 43);
            }
            refused("game 5 5;", 3, 5);
        });
    }

    private static void tooMany() {
        String sentence = "5 the 6th TOWN, the 11th game (its NAME)";
        Edge.of(Edge.TERMS, sentence, "the 6th TOWN, behind blanks", () -> {
            taken(FIVE, 5);
            refused(FIVE + "wise 1;", 5, 35);
            refused(FIVE + "   wise 1;", 5, 38);
        });
        Edge.of(Edge.TERMS, sentence, "games are no TOWNS", () -> {
            taken("plain1;" + "game0 1;".repeat(5) + "plain1;plain1;plain1;plain1;", 10);
            refused(TEN + FIVE + "wise 1;", 5, 115);
        });
        Edge.of(Edge.TERMS, sentence, "the 11th game", () -> {
            taken(FIVE + TEN, 15);
            taken(TEN + FIVE, 15);
            refused(FIVE + TEN + "game 1 0;", 5, 115);
            refused(FIVE + TEN + "  game 1 0;", 5, 117);
        });
    }

    private static void noTown() {
        String sentence = "Behind all (the length): 6 a TOWN that there is not.";
        Edge.of(Edge.TERMS, sentence, "the first, the second, one short of it", () -> {
            refused("game 0 1;", 6, 9);
            refused("wise1;game0 1;", 6, 14);
            refused("wise1;game1 0;", 6, 14);
            taken("wise1;wise1;game0 1;game1 0;", 4);
            refused("wise1;wise1;wise1;wise1;game0 4;", 6, 32);
            refused("wise1;wise1;wise1;wise1;game4 0;", 6, 32);
            taken(FIVE + "game0 4;", 6);
        });
        Edge.of(Edge.TERMS, sentence, "a TOWN may come behind its game", () -> {
            taken("game0 1;wise1;wise1;", 3);
            taken("game0 4;" + FIVE, 6);
        });
        Edge.of(Edge.TERMS, sentence, "the length, with the blanks there", () -> {
            refused("game 0 1;  ", 6, 11);
        });
        Edge.of(Edge.TERMS, sentence, "the first or the last game alone", () -> {
            refused("wise1;wise1;" + TEN.substring(8) + "game0 2;", 6, 92);
            refused("wise1;wise1;game0 2;" + TEN.substring(8), 6, 92);
        });
        Edge.of(Edge.TERMS, sentence, "not a TOWN of what there was", () -> {
            LoseLeague x = Check.told(FIVE);
            Check.due("wise1;game0 1;", Check.tell(x, "wise1;game0 1;"), -24);
        });
    }

    private static LoseLeague busy() {
        LoseLeague x = Check.told("proud 4;careless 9;wise 8;game 1 0;game 2 1;");
        x.weeks(7);
        for (int t = 0; t < 3; t++) {
            x.alter(t, 2, 99);
            x.alter(t, 3, 99);
        }
        for (int i = 0; i < 6; i++) {
            x.see(0, 9);
        }
        x.keep(0);
        x.keep(1);
        for (int k = 0; k < 4; k++) {
            x.sheet(k, k % 3, 2 + k);
            x.lay(k, 1, 1);
        }
        // what was asked of the weeks to come is not to be told by the next text
        x.runs(0, 0);
        return x;
    }

    private static void tellsAll() {
        Edge.of(Edge.TERMS, "A text that is taken tells all, in place of what there was", "fewer, none", () -> {
            LoseLeague x = busy();
            Check.due("text", Check.tell(x, "wise 1;"), 1);
            Check.due("TOWNS", x.rule(0), 1);
            Check.due("KIND", x.town(0, 0), 2);
            Check.due("STRENGTH", x.town(0, 1), 1);
            Check.due("town(1, 0)", x.town(1, 0), -1);
            Check.due("STRENGTH of all", x.count(4), 1);
            Check.due("LOSSES of all", x.count(5), 0);
            Check.due("who has LOSSES", x.rule(4), 0);
            Check.due("OWED", x.rule(5), 0);
            x = busy();
            Check.due("the empty text", x.text(), 0);
            Check.due("TOWNS", x.rule(0), 0);
            Check.due("FIXTURES", x.rule(1), 0);
            Check.due("STRENGTH of all", x.count(4), 0);
            Check.due("OWED", x.rule(5), 0);
        });
        Edge.of(Edge.TERMS, "(what no line tells is as at first)", "LOSSES, OWES, FIXTURES", () -> {
            LoseLeague x = busy();
            Check.tell(x, "wise 1;wise 2;wise 3;");
            for (int t = 0; t < 3; t++) {
                Check.due("LOSSES of " + t, x.town(t, 2), 0);
                Check.due("OWES of " + t, x.town(t, 3), 0);
            }
            Check.due("FIXTURES", x.rule(1), 0);
            Check.due("fixture(0, 0)", x.fixture(0, 0), -1);
        });
        Edge.of(Edge.TERMS, "WEEK is 0, nothing is SEEN; IMAGES are gone; SHEETS stay.", "WEEK is 0", () -> {
            LoseLeague x = busy();
            Check.tell(x, "wise 1;");
            Check.due("rule(2)", x.rule(2), 0);
        });
        Edge.of(Edge.TERMS, "WEEK is 0, nothing is SEEN; IMAGES are gone; SHEETS stay.", "nothing is SEEN", () -> {
            LoseLeague x = busy();
            Check.tell(x, "wise 1;");
            Check.due("count(0)", x.count(0), 0);
            Check.due("forget(1)", x.forget(1), -1);
            Check.due("see(20, 0)", x.see(20, 0), 1);
        });
        Edge.of(Edge.TERMS, "WEEK is 0, nothing is SEEN; IMAGES are gone; SHEETS stay.", "both IMAGES are gone", () -> {
            LoseLeague x = busy();
            Check.tell(x, "wise 1;");
            Check.due("count(1)", x.count(1), 0);
            Check.due("back(0)", x.back(0), -2);
            Check.due("back(1)", x.back(1), -2);
            Check.due("keep(0)", x.keep(0), 0);
            Check.due("keep(1)", x.keep(1), 0);
        });
        Edge.of(Edge.TERMS, "WEEK is 0, nothing is SEEN; IMAGES are gone; SHEETS stay.", "all four SHEETS, their lanes, their CELLS", () -> {
            LoseLeague x = busy();
            Check.tell(x, "wise 1;wise 2;");
            Check.due("count(3)", x.count(3), 2);
            for (int k = 0; k < 4; k++) {
                Check.due("read(" + k + ")", x.read(k, k % 3, 0, 1), 1);
                Check.due("its last CELL", x.lay(k, 1 + k, 0), 1);
                Check.due("behind it", x.lay(k, 2 + k, 0), -12);
            }
        });
    }
}
