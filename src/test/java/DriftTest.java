/** Promise 32: drift. */
public final class DriftTest {
    private static void whoPlays() {
        // seed 1 gets 16838: town 2 plays the next one, 0
        Check.due("0 and 2 draw", Check.told("plain 3;plain 5;plain 3;").drift(1, 1, 1), 0);
        Check.due("1 and 2 would", Check.told("plain 3;plain 5;plain 5;").drift(1, 1, 1), 1);
        Check.due("0 and 1 would", Check.told("plain 3;plain 3;plain 5;").drift(1, 1, 1), 1);
        // seed 2 gets 908 (without bit 31): town 2 plays the one behind the next one, 1
        Check.due("1 and 2 draw", Check.told("plain 3;plain 5;plain 5;").drift(2, 1, 1), 0);
        Check.due("0 and 1 would", Check.told("plain 5;plain 5;plain 3;").drift(2, 1, 1), 1);
        Check.due("0 and 2 would", Check.told("plain 5;plain 3;plain 5;").drift(2, 1, 1), 1);
        // seed -3 gets 15021 : 1 of five towns plays the 2nd behind it, 3
        Check.due("1 and 3 draw", Check.told("plain 1;plain 9;plain 2;plain 9;plain 3;").drift(-3, 1, 1), 0);
    }

    private static void theYear() {
        LoseLeague x = Check.told("plain 3;plain 5;game 0 1;game 0 1;");
        // two towns always play each other: 0 loses, they draw
        Check.due("the year is not over", x.drift(5, 1, 0), 0);
        Check.due("one is lost", x.drift(5, 1, 1), 1);
        Check.due("the year is over", x.drift(5, 2, 0), 1);
        Check.due("one is lost", x.drift(5, 2, 1), 1);
        Check.due("two years", x.drift(5, 4, 0), 3);
        Check.due("drift(5, 60, 0)", x.drift(5, 60, 0), 59);
        Check.due("nothing is changed", x.rule(2) + x.town(0, 2) + x.rule(5), 0);
        x.weeks(1);
        Check.due("from this week on", x.drift(5, 1, 0), 1);
        x = Check.told("plain 3;plain 5;");
        Check.due("without fixtures: they play", x.drift(5, 1, 1), 1);
        Check.due("without fixtures: no year", x.drift(5, 60, 0), 0);
        x = Check.told("plain 3;plain 5;plain 7;game 0 1;");
        x.alter(2, 3, 40);
        Check.due("what is owed already", x.drift(9, 1, 0), 42);
    }

    /** The document's own numbers, for a long run of seeds. */
    private static void longRuns() {
        for (int seed = -40; seed <= 40; seed++) {
            LoseLeague x = Check.told("plain 9;proud 6;wise 17;careless 20;wise 3;game 0 1;game 2 3;game 1 2;");
            int lost = x.drift(seed * 53714897, 30, 1);
            LoseLeague y = Check.told("plain 9;proud 6;wise 17;careless 20;wise 3;game 0 1;game 2 3;game 1 2;");
            long s = seed * 53714897 & 0xffffffffL;
            int played = 0;
            for (int week = 0; week < 30; week++) {
                s = s * 1103515245L + 12345L & 0xffffffffL;
                int got = (int) (s >> 16) & 32767;
                int a = got % 5;
                int b = (a + 1 + got / 8 % 4) % 5;
                y.strike(0);
                for (int i = 0; i < 3; i++) {
                    y.book(a, b);
                }
                played += y.weeks(1);
            }
            Check.due("drift of " + seed + ": lost", lost, played);
            Check.due("drift of " + seed + ": owed", x.drift(seed * 53714897, 30, 0), y.rule(5));
        }
    }

    private static void refused() {
        LoseLeague x = Check.told("plain 3;plain 5;");
        Check.due("drift(5, 0, 0)", x.drift(5, 0, 0), -1);
        Check.due("drift(5, 61, 0)", x.drift(5, 61, 0), -1);
        Check.due("drift(5, -1, 0)", x.drift(5, -1, 0), -1);
        Check.due("drift(5, 1, 2)", x.drift(5, 1, 2), -1);
        Check.due("drift(5, 1, -1)", x.drift(5, 1, -1), -1);
        LoseLeague one = Check.told("plain 3;");
        Check.due("one town", one.drift(5, 1, 0), -2);
        Check.due("BAD ahead of STATE", one.drift(5, 0, 0), -1);
        Check.due("no town", new LoseLeague().drift(5, 1, 1), -2);
    }

    public static void main(String[] args) {
        whoPlays();
        theYear();
        longRuns();
        refused();
        Check.finish("DriftTest");
    }
}
