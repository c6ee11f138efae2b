/** Boundary cases of promises 27 to 31: see, forget, kinds, strengths, ask. */
final class EdgesOfSeen {
    private static final int ALL = (1 << 21) - 1;
    private static final String FIVE = "plain 9;proud 6;wise 17;careless 20;plain 4;";
    private static final String SHORT = "plain 5;plain 3;game 0 1;";

    private EdgesOfSeen() {
    }

    static void all() {
        see();
        forget();
        fromWhen();
        kinds();
        strengths();
        ask();
        askNone();
    }

    private static void see() {
        String sentence = "SEEN: in WEEK n (0 to 20) a TOWN LOSES, or nobody (9): how many are. BAD; FULL.";
        Edge.of(27, sentence, "n at both ends", () -> {
            LoseLeague x = Check.told(FIVE);
            Check.due("see(0, 9)", x.see(0, 9), 1);
            Check.due("see(20, 9)", x.see(20, 9), 2);
            Edge.bad("see(#, 9)", n -> x.see(n, 9), -1, 21, Edge.MIN, Edge.MAX);
            Check.due("SEEN", x.count(0), 2);
        });
        Edge.of(27, sentence, "no such TOWN; nobody is 9 alone", () -> {
            LoseLeague five = Check.told(FIVE);
            Edge.taken("see(0, #)", t -> five.see(0, t), 0, 4, 9);
            Edge.bad("see(0, #)", t -> five.see(0, t), -1, -4, 5, 6, 8, 10, Edge.MIN, Edge.MAX);
            LoseLeague two = Check.told(SHORT);
            Edge.taken("of two: see(0, #)", t -> two.see(0, t), 0, 1, 9);
            Edge.bad("of two: see(0, #)", t -> two.see(0, t), -1, 2, 4, 8, 10);
            LoseLeague none = new LoseLeague();
            Edge.bad("of none: see(0, #)", t -> none.see(0, t), 0, 1, 8, 10);
            Check.due("of none: see(0, 9)", none.see(0, 9), 1);
        });
        Edge.of(27, sentence, "the first, the sixth, the seventh", () -> {
            LoseLeague x = Check.told(FIVE);
            for (int n = 1; n <= 6; n++) {
                Check.due("the " + n + ".", x.see(n, 9), n);
            }
            Check.due("the 7th", x.see(0, 9), -3);
            Check.due("again", x.see(0, 9), -3);
            Check.due("SEEN", x.count(0), 6);
            x.forget(5);
            Check.due("one less, one more", x.see(0, 9), 6);
        });
        Edge.of(Edge.TERMS, "SEEN (6)", "all six count", () -> {
            for (int last = 0; last < 6; last++) {
                LoseLeague x = Check.told("plain 5;plain 5;game 0 1;");
                for (int i = 0; i < 6; i++) {
                    x.see(3, i == last ? 0 : 9);
                }
                Check.due("the " + last + ". does not fit", x.kinds(1) & 1, 0);
            }
        });
        Edge.of(27, "BAD; FULL.", "BAD comes first", () -> {
            LoseLeague x = Check.told(FIVE);
            for (int i = 0; i < 6; i++) {
                x.see(0, 9);
            }
            Check.due("see(21, 9)", x.see(21, 9), -1);
            Check.due("see(0, 5)", x.see(0, 5), -1);
            Check.due("see(0, 4)", x.see(0, 4), -3);
        });
    }

    private static void forget() {
        String sentence = "SEEN are the first n alone: how many there were. BAD (n above that, too).";
        Edge.of(28, sentence, "nothing there, all there", () -> {
            LoseLeague x = Check.told(FIVE);
            Check.due("forget(0)", x.forget(0), 0);
            Edge.bad("of none: forget(#)", x::forget, -1, 1, 6, Edge.MIN, Edge.MAX);
            for (int i = 0; i < 6; i++) {
                x.see(i, 9);
            }
            Edge.bad("of six: forget(#)", x::forget, -1, 7, Edge.MIN, Edge.MAX);
            Check.due("forget(6)", x.forget(6), 6);
            Check.due("SEEN", x.count(0), 6);
        });
        Edge.of(28, sentence, "above what there are, not above what there may be", () -> {
            LoseLeague x = Check.told(FIVE);
            x.see(0, 9);
            x.see(0, 9);
            Edge.bad("forget(#)", x::forget, 3, 6);
            Check.due("forget(2)", x.forget(2), 2);
            Check.due("forget(1)", x.forget(1), 2);
            Edge.bad("forget(#)", x::forget, 2);
            Check.due("forget(0)", x.forget(0), 1);
            Check.due("forget(0)", x.forget(0), 0);
        });
        Edge.of(28, "SEEN are the first n alone", "the first stay, the others do not", () -> {
            LoseLeague x = Check.told(SHORT);
            x.see(0, 1);
            x.see(0, 0);
            Check.due("both can not be", x.kinds(0), 0);
            x.forget(1);
            Check.due("the first alone: 5, 8, 2, 0 by 3", x.kinds(0), 3);
            x.forget(0);
            Check.due("none", x.kinds(0), 15);
        });
    }

    private static void fromWhen() {
        Edge.of(Edge.TERMS, "counted from the WEEK that it is when it is asked of (not from see() on)", "a WEEK later", () -> {
            LoseLeague x = Check.told("plain 1;plain 9;plain 2;plain 9;game 0 1;game 2 3;");
            x.see(0, 0);
            Check.due("in WEEK 0", x.kinds(3) == 0 ? 0 : 1, 1);
            x.weeks(1);
            Check.due("in WEEK 1 it is 2 that LOSES", x.kinds(3), 0);
            Check.due("in WEEK 1: strengths()", x.strengths(3), 0);
            x.weeks(1);
            Check.due("in WEEK 2", x.kinds(3) == 0 ? 0 : 1, 1);
        });
        Edge.of(Edge.TERMS, "counted from the WEEK that it is when it is asked of (not from see() on)", "WEEK 0 is this one, WEEK 20 the last", () -> {
            String towns = "plain 5;plain 3;plain 1;plain 1;";
            LoseLeague x = Check.told(towns + "game0 1;" + "game2 3;".repeat(9));
            x.see(0, 1);
            Check.due("this one: above 3", x.strengths(0), ALL - 15);
            x.forget(0);
            x.see(20, 9);
            // their third GAME: by then what was 0 or 2 or 4 apart is a DRAW
            Check.due("20", x.strengths(0), 1 << 1 | 1 << 3 | 1 << 5 | 1 << 7);
            x.forget(0);
            x.see(19, 9);
            Check.due("19", x.strengths(0), ALL);
        });
    }

    private static void kinds() {
        Edge.of(29, "KINDS of a TOWN (bits) by which, all else as it is, all is as SEEN. BAD.", "no such TOWN", () -> {
            LoseLeague x = Check.told(FIVE);
            Edge.taken("kinds(#)", x::kinds, 0, 1, 2, 3, 4);
            Edge.bad("kinds(#)", x::kinds, -1, 5, 9, Edge.MIN, Edge.MAX);
            LoseLeague two = Check.told(SHORT);
            Edge.bad("of two: kinds(#)", two::kinds, 2, 4);
            Check.due("of none", new LoseLeague().kinds(0), -1);
        });
        Edge.of(29, "all is as SEEN", "nothing is SEEN: all KINDS", () -> {
            LoseLeague x = Check.told(FIVE + "game 0 1;");
            for (int t = 0; t < 5; t++) {
                Check.due("kinds(" + t + ")", x.kinds(t), 15);
            }
        });
        Edge.of(29, "all is as SEEN", "no KIND", () -> {
            LoseLeague x = Check.told(SHORT);
            x.see(0, 0);
            x.see(0, 1);
            Check.due("two that can not be", x.kinds(0), 0);
            LoseLeague none = Check.told("plain 5;plain 3;");
            none.see(0, 1);
            Check.due("no FIXTURES, one LOSES", none.kinds(0), 0);
            none.forget(0);
            none.see(20, 9);
            Check.due("no FIXTURES, nobody does", none.kinds(0), 15);
        });
        Edge.of(29, "KINDS of a TOWN (bits)", "each by itself", () -> {
            // 0 PLAYS 8, 11, 4, 2
            int[] other = {8, 11, 4, 2};
            for (int k = 0; k < 4; k++) {
                LoseLeague x = Check.told("plain 8;plain " + other[k] + ";game 0 1;");
                x.see(0, 9);
                Check.due("a DRAW by " + other[k], x.kinds(0), 1 << k);
            }
        });
        Edge.of(29, "all else as it is", "whatever KIND it is; nothing is changed", () -> {
            for (int k = 0; k < 4; k++) {
                LoseLeague x = Check.told("plain 8;plain 4;game 0 1;");
                x.alter(0, 0, k);
                x.see(0, 9);
                String before = Check.state(x);
                Check.due("kinds(0)", x.kinds(0), 4);
                Check.same("behind kinds()", Check.state(x), before);
            }
        });
    }

    private static void strengths() {
        Edge.of(30, "STRENGTHS of a TOWN (bits 0 to 20) by which, all else as it is, all is as SEEN. BAD.", "no such TOWN", () -> {
            LoseLeague x = Check.told(FIVE);
            Edge.taken("strengths(#)", x::strengths, 0, 1, 2, 3, 4);
            Edge.bad("strengths(#)", x::strengths, -1, 5, 9, Edge.MIN, Edge.MAX);
            LoseLeague two = Check.told(SHORT);
            Edge.bad("of two: strengths(#)", two::strengths, 2, 4);
            Check.due("of none", new LoseLeague().strengths(0), -1);
        });
        Edge.of(30, "STRENGTHS of a TOWN (bits 0 to 20)", "each by itself, from 0 to 20", () -> {
            for (int s = 0; s <= 20; s++) {
                LoseLeague x = Check.told("plain 7;plain " + s + ";game 0 1;");
                x.see(0, 9);
                Check.due("a DRAW by " + s, x.strengths(0), 1 << s);
            }
        });
        Edge.of(30, "STRENGTHS of a TOWN (bits 0 to 20)", "none, all", () -> {
            LoseLeague x = Check.told("plain 7;proud 20;game 0 1;");
            Check.due("nothing is SEEN", x.strengths(0), ALL);
            x.see(0, 0);
            Check.due("all LOSE to 23", x.strengths(0), ALL);
            x.see(0, 9);
            Check.due("two that can not be", x.strengths(0), 0);
            x.forget(0);
            x.see(0, 1);
            Check.due("none beats 23", x.strengths(0), 0);
        });
        Edge.of(30, "STRENGTHS of a TOWN (bits 0 to 20)", "20 alone, all but 20, 0 alone, all but 0", () -> {
            LoseLeague x = Check.told("plain 7;plain 19;game 0 1;");
            x.see(0, 1);
            Check.due("above 19", x.strengths(0), 1 << 20);
            x = Check.told("plain 7;plain 20;game 0 1;");
            x.see(0, 0);
            Check.due("below 20", x.strengths(0), ALL - (1 << 20));
            x = Check.told("plain 7;plain 1;game 0 1;");
            x.see(0, 0);
            Check.due("below 1", x.strengths(0), 1);
            x = Check.told("plain 7;plain 0;game 0 1;");
            x.see(0, 1);
            Check.due("above 0", x.strengths(0), ALL - 1);
        });
        Edge.of(30, "all else as it is", "whatever STRENGTH it has; nothing is changed", () -> {
            for (int s = 0; s <= 20; s += 10) {
                LoseLeague x = Check.told("plain " + s + ";plain 4;game 0 1;");
                x.see(0, 9);
                String before = Check.state(x);
                Check.due("strengths(0)", x.strengths(0), 1 << 4);
                Check.same("behind strengths()", Check.state(x), before);
            }
        });
    }

    private static void asks(LoseLeague x, int t, int week, int left) {
        Check.due("ask(" + t + ", 0)", x.ask(t, 0), week);
        Check.due("ask(" + t + ", 1)", x.ask(t, 1), left);
    }

    /** Two that play once in ten WEEKS; 0 to 17 of town 0 LOSE to 20 twice; their third GAME tells 16, 17 from the others. */
    private static LoseLeague thirdGame(int place) {
        LoseLeague x = Check.told("plain 1;plain 20;plain 9;plain 9;"
            + "game2 3;".repeat(place) + "game0 1;" + "game2 3;".repeat(9 - place));
        x.see(place, 0);
        x.see(place + 10, 0);
        Check.due("0 to 17", x.strengths(0), (1 << 18) - 1);
        return x;
    }

    /** Looks in each WEEK, and is told each answer that there may be. */
    private static void asksByLooking(String text, int t) {
        LoseLeague x = Check.told(text);
        int fewest = Integer.bitCount(x.strengths(t));
        int best = -4;
        for (int week = 0; week <= 20; week++) {
            int worst = 0;
            for (int loser : new int[] {0, 1, 2, 9}) {
                if (x.see(week, loser) == 1) {
                    worst = Math.max(worst, Integer.bitCount(x.strengths(t)));
                    x.forget(0);
                }
            }
            if (worst < fewest) {
                fewest = worst;
                best = week;
            }
        }
        asks(x, t, best, best < 0 ? -4 : fewest);
    }

    private static void ask() {
        Edge.of(31, "The WEEK (0 to 20) in which to look who LOSES, or whether nobody does", "0, 20, 21", () -> {
            LoseLeague x = Check.told(SHORT);
            x.see(1, 9);
            // 3, 5, 7 are left: 1 LOSES, nobody does, 0 LOSES
            asks(x, 1, 0, 1);
            asks(thirdGame(0), 0, 20, 16);
            asks(thirdGame(1), 0, -4, -4);
        });
        Edge.of(31, "fewest are left at the worst, fewer than now, the first (what 0), how many these are (1)", "WEEKS 5 and 6 are as good", () -> {
            // WEEK 5: 0 LOSES by 9, 1 by 4, nobody by 8; WEEK 6: by 7, 5, 9
            asks(Check.told(SHORT), 1, 5, 9);
            LoseLeague x = Check.told(SHORT);
            x.weeks(30);
            x.alter(0, 1, 5);
            asks(x, 1, 5, 9);
        });
        Edge.of(31, "so that of strengths() of a TOWN fewest are left at the worst, fewer than now, the first", "as see() and strengths() tell it", () -> {
            String[] texts = {SHORT, "wise 9;proud 4;plain 7;game 0 1;game 2 0;game 1 2;", "careless 15;wise 12;game 0 1;game 1 0;"};
            for (String text : texts) {
                asksByLooking(text, 1);
                asksByLooking(text, 0);
            }
        });
        Edge.of(31, "fewest are left at the worst", "the worst, not the best", () -> {
            // 0 to 4 are left; WEEK 1 leaves 0, 1, 2 or 3 or 4; WEEK 2 leaves 0, 4 or 1, 3 or 2
            LoseLeague x = Check.told(SHORT);
            x.see(0, 1);
            Check.due("0 to 4", x.strengths(1), 31);
            asks(x, 1, 2, 2);
        });
        Edge.of(31, "how many these are (1). BAD; NONE: none.", "no such TOWN", () -> {
            LoseLeague x = Check.told("plain 5;plain 3;plain 1;plain 1;plain 1;game 0 4;");
            Edge.taken("ask(#, 0)", t -> x.ask(t, 0), 0, 1, 4);
            Edge.bad("ask(#, 0)", t -> x.ask(t, 0), -1, -4, 5, 9, Edge.MIN, Edge.MAX);
            LoseLeague two = Check.told(SHORT);
            Edge.bad("of two: ask(#, 1)", t -> two.ask(t, 1), 2, 4);
            Check.due("of none", new LoseLeague().ask(0, 0), -1);
        });
        Edge.of(31, "how many these are (1). BAD; NONE: none.", "what at both ends", () -> {
            LoseLeague x = Check.told(SHORT);
            Edge.taken("ask(0, #)", what -> x.ask(0, what), 0, 1);
            Edge.bad("ask(0, #)", what -> x.ask(0, what), -1, 2, Edge.MIN, Edge.MAX);
        });
        Edge.of(31, "The WEEK (0 to 20) in which to look", "nothing is changed, nothing more is SEEN", () -> {
            LoseLeague x = Check.told(FIVE + "game 0 1;game 2 3;");
            x.see(1, 9);
            x.weeks(1);
            String before = Check.state(x);
            x.ask(0, 0);
            x.ask(0, 1);
            Check.same("behind ask()", Check.state(x), before);
        });
    }

    private static void askNone() {
        Edge.of(31, "fewer than now", "one is left, none is left, none can be told apart", () -> {
            LoseLeague one = Check.told(SHORT);
            one.see(0, 9);
            Check.due("one is left", one.strengths(1), 1 << 5);
            asks(one, 1, -4, -4);
            one.see(0, 1);
            Check.due("none is left", one.strengths(1), 0);
            asks(one, 1, -4, -4);
            asks(Check.told("plain 5;plain 3;"), 0, -4, -4);
            asks(Check.told("plain 5;plain 3;plain 1;game 0 1;"), 2, -4, -4);
        });
        Edge.of(31, "fewer than now", "two are left, one WEEK tells them apart", () -> {
            LoseLeague x = Check.told(SHORT);
            x.see(0, 1);
            x.see(2, 9);
            Check.due("1 and 3", x.strengths(1), 1 << 1 | 1 << 3);
            asks(x, 1, 1, 1);
        });
        Edge.of(31, "or whether nobody does", "nobody is one of the answers, the fifth TOWN another", () -> {
            LoseLeague x = Check.told("plain 5;plain 1;plain 1;plain 1;plain 3;game 4 0;");
            x.see(1, 9);
            Check.due("3, 5, 7", x.strengths(4), 1 << 3 | 1 << 5 | 1 << 7);
            asks(x, 4, 0, 1);
        });
        Edge.of(31, "The WEEK (0 to 20) in which to look", "also when six are SEEN", () -> {
            LoseLeague x = Check.told(SHORT);
            for (int i = 0; i < 6; i++) {
                x.see(0, 1);
            }
            asks(x, 1, 2, 2);
        });
        Edge.of(31, "BAD; NONE: none.", "BAD comes first", () -> {
            LoseLeague x = Check.told("plain 5;plain 3;");
            Check.due("ask(0, 2)", x.ask(0, 2), -1);
            Check.due("ask(0, -1)", x.ask(0, -1), -1);
        });
    }
}
