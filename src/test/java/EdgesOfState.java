/** Boundary cases of promises 6 to 9: rule, town, fixture, game; and of PLAYS. */
final class EdgesOfState {
    private static final String FIVE = "plain 9;proud 6;wise 17;careless 20;plain 4;";
    private static final String[] KINDS = {"plain", "proud", "wise", "careless"};

    private EdgesOfState() {
    }

    static void all() {
        answers();
        rule();
        town();
        plays();
        fixture();
        game();
    }

    private static void answers() {
        Edge.of(Edge.TERMS, "Answers: BAD -1 (a number is not as told, there is no such TOWN, FIXTURE, IMAGE, SHEET), STATE -2 (as told), FULL -3, NONE -4",
            "the constants", () -> {
                Check.due("BAD", LoseLeague.BAD, -1);
                Check.due("STATE", LoseLeague.STATE, -2);
                Check.due("FULL", LoseLeague.FULL, -3);
                Check.due("NONE", LoseLeague.NONE, -4);
            });
        Edge.of(Edge.TERMS, "What is numbered has its numbers from 0 on, as it comes", "TOWNS and FIXTURES", () -> {
            LoseLeague x = Check.told(FIVE + "game 3 1;game 4 0;");
            int[] strengths = {9, 6, 17, 20, 4};
            for (int t = 0; t < 5; t++) {
                Check.due("STRENGTH of " + t, x.town(t, 1), strengths[t]);
            }
            Check.due("the first FIXTURE", x.fixture(0, 0), 3);
            Check.due("the second FIXTURE", x.fixture(1, 0), 4);
        });
    }

    private static void rule() {
        Edge.of(6, "4 who has LOSSES (bits), 5 OWED. BAD.", "what at both ends", () -> {
            LoseLeague x = Check.told(FIVE);
            Edge.taken("rule(#)", x::rule, 0, 1, 2, 3, 4, 5);
            Edge.bad("rule(#)", x::rule, -1, 6, Edge.MIN, Edge.MAX);
        });
        Edge.of(6, "0 TOWNS, 1 FIXTURES", "none, all", () -> {
            LoseLeague x = new LoseLeague();
            Check.due("TOWNS", x.rule(0), 0);
            Check.due("FIXTURES", x.rule(1), 0);
            x = Check.told(FIVE + "game0 1;".repeat(10));
            Check.due("TOWNS", x.rule(0), 5);
            Check.due("FIXTURES", x.rule(1), 10);
        });
        Edge.of(6, "2 WEEK", "the last that may be", () -> {
            LoseLeague x = Check.told(FIVE + "game 0 1;");
            Edge.passWeeks(x, 999);
            Check.due("rule(2)", x.rule(2), 999);
        });
        Edge.of(6, "3 the FIXTURE of this WEEK (NONE)", "no FIXTURES", () -> {
            LoseLeague x = new LoseLeague();
            Check.due("nothing there", x.rule(3), -4);
            x = Check.told(FIVE + "game 0 1;");
            x.weeks(3);
            Check.due("one", x.rule(3), 0);
            x.strike(0);
            Check.due("none any more", x.rule(3), -4);
        });
        Edge.of(6, "3 the FIXTURE of this WEEK (NONE)", "the first one behind the last one", () -> {
            LoseLeague x = Check.told(FIVE + "game0 1;".repeat(10));
            for (int week = 0; week <= 21; week++) {
                Check.due("WEEK " + week, x.rule(3), week % 10);
                x.weeks(1);
            }
            x = Check.told(FIVE + "game 0 1;");
            Check.due("of one, WEEK 0", x.rule(3), 0);
            x.weeks(1);
            Check.due("of one, WEEK 1", x.rule(3), 0);
        });
        Edge.of(6, "3 the FIXTURE of this WEEK (NONE)", "WEEK stays, FIXTURES are fewer, more", () -> {
            LoseLeague x = Check.told(FIVE + "game0 1;".repeat(10));
            x.weeks(7);
            Check.due("7 by ten", x.rule(3), 7);
            x.strike(7);
            Check.due("7 by seven", x.rule(3), 0);
            x.strike(4);
            Check.due("7 by four", x.rule(3), 3);
            x.book(2, 3);
            Check.due("7 by five", x.rule(3), 2);
        });
        Edge.of(6, "4 who has LOSSES (bits)", "none, each, all", () -> {
            LoseLeague x = Check.told(FIVE);
            Check.due("none", x.rule(4), 0);
            for (int t = 0; t < 5; t++) {
                x.alter(t, 2, 1);
                Check.due("town " + t, x.rule(4), 1 << t);
                x.alter(t, 2, 99);
                Check.due("town " + t + ", 99", x.rule(4), 1 << t);
                x.alter(t, 2, 0);
            }
            for (int t = 0; t < 5; t++) {
                x.alter(t, 2, 1 + t);
            }
            Check.due("all", x.rule(4), 31);
            Check.due("no TOWNS", new LoseLeague().rule(4), 0);
        });
        Edge.of(6, "5 OWED", "none, all that may be", () -> {
            LoseLeague x = Check.told(FIVE);
            Check.due("none", x.rule(5), 0);
            for (int t = 0; t < 5; t++) {
                x.alter(t, 3, 99);
                Check.due("up to town " + t, x.rule(5), 99 * (t + 1));
            }
            Check.due("no TOWNS", new LoseLeague().rule(5), 0);
        });
    }

    private static void town() {
        String sentence = "Of a TOWN: 0 KIND, 1 STRENGTH, 2 LOSSES, 3 what it OWES, 4 what it PLAYS now. BAD.";
        Edge.of(7, sentence, "no such TOWN", () -> {
            LoseLeague five = Check.told(FIVE);
            Edge.taken("town(#, 0)", t -> five.town(t, 0), 0, 1, 2, 3, 4);
            Edge.bad("town(#, 0)", t -> five.town(t, 0), -1, 5, Edge.MIN, Edge.MAX);
            LoseLeague two = Check.told("plain 1;wise 2;");
            Edge.taken("of two: town(#, 4)", t -> two.town(t, 4), 0, 1);
            Edge.bad("of two: town(#, 4)", t -> two.town(t, 4), -1, 2, 3, 4, 5);
            LoseLeague none = new LoseLeague();
            Edge.bad("of none: town(#, 0)", t -> none.town(t, 0), -1, 0, 1, 4);
        });
        Edge.of(7, sentence, "what at both ends", () -> {
            LoseLeague x = Check.told(FIVE);
            Edge.taken("town(4, #)", what -> x.town(4, what), 0, 1, 2, 3, 4);
            Edge.bad("town(4, #)", what -> x.town(4, what), -1, 5, Edge.MIN, Edge.MAX);
        });
        Edge.of(7, sentence, "each what at its bounds", () -> {
            LoseLeague x = Check.told(FIVE);
            int[] most = {3, 20, 99, 99};
            for (int what = 0; what <= 3; what++) {
                x.alter(4, what, most[what]);
                Check.due("town(4, " + what + ")", x.town(4, what), most[what]);
                x.alter(4, what, 0);
                Check.due("town(4, " + what + ")", x.town(4, what), 0);
            }
        });
        Edge.of(7, "4 what it PLAYS now", "now: by the LOSSES that it has", () -> {
            LoseLeague x = Check.told("wise 9;");
            Check.due("no LOSSES", x.town(0, 4), 4);
            x.alter(0, 2, 1);
            Check.due("LOSSES 1", x.town(0, 4), 9);
            x.alter(0, 2, 0);
            Check.due("no LOSSES again", x.town(0, 4), 4);
        });
    }

    private static void plays(String kind, int strength, int losses, int want) {
        LoseLeague x = Check.told(kind + " " + strength + ";");
        x.alter(0, 2, losses);
        Check.due(kind + " of " + strength + ", LOSSES " + losses, x.town(0, 4), want);
    }

    private static void plays() {
        Edge.of(Edge.TERMS, "plain STRENGTH; proud 3 more than a plain one", "0, 20, whatever its LOSSES", () -> {
            for (int losses : new int[] {0, 1, 99}) {
                plays("plain", 0, losses, 0);
                plays("plain", 1, losses, 1);
                plays("plain", 20, losses, 20);
                plays("proud", 0, losses, 3);
                plays("proud", 17, losses, 20);
                plays("proud", 18, losses, 21);
                plays("proud", 20, losses, 23);
            }
        });
        Edge.of(Edge.TERMS, "wise half of a plain one (down), if it has no LOSSES, else as a plain one", "down", () -> {
            for (int strength = 0; strength <= 20; strength++) {
                plays("wise", strength, 0, (strength - strength % 2) / 2);
            }
        });
        Edge.of(Edge.TERMS, "wise half of a plain one (down), if it has no LOSSES, else as a plain one", "one is enough", () -> {
            for (int losses : new int[] {1, 2, 99}) {
                plays("wise", 0, losses, 0);
                plays("wise", 1, losses, 1);
                plays("wise", 20, losses, 20);
            }
        });
        Edge.of(Edge.TERMS, "careless 2 less than a wise one (0 at least)", "no LOSSES", () -> {
            int[] want = {0, 0, 0, 0, 0, 0, 1, 1, 2};
            for (int strength = 0; strength < want.length; strength++) {
                plays("careless", strength, 0, want[strength]);
            }
            plays("careless", 20, 0, 8);
        });
        Edge.of(Edge.TERMS, "careless 2 less than a wise one (0 at least)", "LOSSES", () -> {
            int[] want = {0, 0, 0, 1, 2};
            for (int strength = 0; strength < want.length; strength++) {
                plays("careless", strength, 1, want[strength]);
                plays("careless", strength, 99, want[strength]);
            }
            plays("careless", 20, 1, 18);
        });
    }

    private static void fixture() {
        String sentence = "Of a FIXTURE: its first TOWN (what 0), its second one (1). BAD.";
        Edge.of(8, sentence, "no such FIXTURE", () -> {
            LoseLeague ten = Check.told(FIVE + "game0 1;".repeat(9) + "game 4 3;");
            Edge.taken("fixture(#, 0)", i -> ten.fixture(i, 0), 0, 1, 8, 9);
            Edge.bad("fixture(#, 0)", i -> ten.fixture(i, 0), -1, 10, Edge.MIN, Edge.MAX);
            Check.due("the last one", ten.fixture(9, 0) * 10 + ten.fixture(9, 1), 43);
            LoseLeague one = Check.told(FIVE + "game 3 2;");
            Edge.taken("of one: fixture(#, 1)", i -> one.fixture(i, 1), 0);
            Edge.bad("of one: fixture(#, 1)", i -> one.fixture(i, 1), -1, 1, 2, 9);
            LoseLeague none = Check.told(FIVE);
            Edge.bad("of none: fixture(#, 0)", i -> none.fixture(i, 0), -1, 0, 1);
        });
        Edge.of(8, sentence, "what at both ends", () -> {
            LoseLeague x = Check.told(FIVE + "game 3 2;");
            Check.due("fixture(0, 0)", x.fixture(0, 0), 3);
            Check.due("fixture(0, 1)", x.fixture(0, 1), 2);
            Edge.bad("fixture(0, #)", what -> x.fixture(0, what), -1, 2, Edge.MIN, Edge.MAX);
        });
        Edge.of(8, sentence, "one that is struck is none", () -> {
            LoseLeague x = Check.told(FIVE + "game 3 2;game 0 1;");
            x.strike(1);
            Check.due("fixture(0, 0)", x.fixture(0, 0), 3);
            Check.due("fixture(1, 0)", x.fixture(1, 0), -1);
        });
    }

    private static void game() {
        Edge.of(9, "BAD (also alike); NONE: it is a DRAW.", "no such TOWN, the first, the second", () -> {
            LoseLeague x = Check.told(FIVE);
            Edge.taken("game(#, 0)", t -> x.game(t, 0), 1, 4);
            Edge.taken("game(0, #)", t -> x.game(0, t), 1, 4);
            Edge.bad("game(#, 0)", t -> x.game(t, 0), -1, 5, Edge.MIN, Edge.MAX);
            Edge.bad("game(0, #)", t -> x.game(0, t), -1, 5, Edge.MIN, Edge.MAX);
            LoseLeague one = Check.told("plain 1;");
            Edge.bad("of one: game(0, #)", t -> one.game(0, t), 0, 1, 4);
            Edge.bad("of one: game(#, 0)", t -> one.game(t, 0), 1, 2, 4);
        });
        Edge.of(9, "BAD (also alike); NONE: it is a DRAW.", "alike, though it would be a DRAW", () -> {
            LoseLeague x = Check.told(FIVE);
            Edge.bad("game(#, #)", t -> x.game(t, t), 0, 1, 2, 3, 4);
            Edge.bad("game(#, #)", t -> x.game(t, t), -1, 5);
        });
        Edge.of(9, "NONE: it is a DRAW.", "as much, one more, one less", () -> {
            LoseLeague x = Check.told("plain 8;proud 5;");
            Check.due("8 by 8", x.game(0, 1), -4);
            Check.due("8 by 8", x.game(1, 0), -4);
            x.alter(0, 1, 9);
            Check.due("9 by 8", x.game(0, 1), 1);
            Check.due("8 by 9", x.game(1, 0), 1);
            x.alter(0, 1, 7);
            Check.due("7 by 8", x.game(0, 1), 0);
            Check.due("8 by 7", x.game(1, 0), 0);
        });
        Edge.of(9, "NONE: it is a DRAW.", "0 by 0, what each KIND PLAYS at least", () -> {
            for (String kind : KINDS) {
                LoseLeague x = Check.told(kind + " 0;careless 5;");
                Check.due(kind + " 0 by careless 5", x.game(0, 1), kind.equals("proud") ? 1 : -4);
            }
        });
        Edge.of(9, "Who LOSES, if two TOWNS play now.", "it is only asked", () -> {
            LoseLeague x = Check.told(FIVE + "game 0 1;");
            String before = Check.state(x);
            x.game(0, 4);
            x.game(4, 0);
            Check.same("behind game()", Check.state(x), before);
        });
    }
}
