/** Boundary cases of promise 32: drift. */
final class EdgesOfDrift {
    private EdgesOfDrift() {
    }

    static void all() {
        numbers();
        towns();
        seeds();
        theYear();
    }

    private static void numbers() {
        LoseLeague x = Check.told("plain 5;plain 4;game 0 1;");
        Edge.of(32, "n WEEKS (1 to 60) by a seed", "n at both ends", () -> {
            Edge.bad("drift(1, #, 0)", n -> x.drift(1, n, 0), 0, -1, 61, Edge.MIN, Edge.MAX);
            Edge.bad("drift(1, #, 1)", n -> x.drift(1, n, 1), 0, -1, 61, Edge.MIN, Edge.MAX);
            for (int n : new int[] {1, 2, 59, 60}) {
                Check.due("drift(1, " + n + ", 0)", x.drift(1, n, 0), n);
                Check.due("drift(1, " + n + ", 1)", x.drift(1, n, 1), n);
            }
        });
        Edge.of(32, "OWED in the end (what 0), how many GAMES are lost in them (1)", "what at both ends", () -> {
            Edge.taken("drift(1, 1, #)", what -> x.drift(1, 1, what), 0, 1);
            Edge.bad("drift(1, 1, #)", what -> x.drift(1, 1, what), -1, 2, Edge.MIN, Edge.MAX);
        });
        Edge.of(32, "BAD; STATE: there are no two TOWNS.", "none, one, two", () -> {
            Check.due("none", new LoseLeague().drift(1, 1, 0), -2);
            Check.due("none", new LoseLeague().drift(1, 60, 1), -2);
            Check.due("one", Check.told("plain 5;").drift(1, 1, 0), -2);
            Check.due("two", Check.told("plain 5;plain 4;").drift(1, 1, 1), 1);
        });
        Edge.of(32, "BAD; STATE: there are no two TOWNS.", "BAD comes first", () -> {
            LoseLeague none = new LoseLeague();
            Edge.bad("drift(1, #, 0)", n -> none.drift(1, n, 0), 0, 61);
            Edge.bad("drift(1, 1, #)", what -> none.drift(1, 1, what), -1, 2);
        });
        Edge.of(32, "By itself (as it would be; nothing is changed)", "60 WEEKS", () -> {
            x.weeks(3);
            String before = Check.state(x);
            x.drift(7, 60, 0);
            x.drift(7, 60, 1);
            Check.same("behind drift()", Check.state(x), before);
        });
    }

    /** As the document says it, with numbers that do not wrap around: 10 times the one and the other. */
    private static int due(int seed, int towns) {
        long s = Math.floorMod(Math.floorMod((long) seed, 1L << 32) * 1103515245L + 12345L, 1L << 32);
        long got = s / 65536 % 32768;
        long first = got % towns;
        long second = first + 1 + got / 8 % (towns - 1);
        return (int) (10 * first + (second >= towns ? second - towns : second));
    }

    /** Whether these two play: all STRENGTHS differ but theirs, so that theirs alone is a DRAW. */
    private static boolean play(int seed, int towns, int a, int b) {
        StringBuilder text = new StringBuilder();
        for (int t = 0; t < towns; t++) {
            text.append("plain ").append(3 + 3 * (t == b ? a : t)).append(';');
        }
        return Check.told(text.toString()).drift(seed, 1, 1) == 0;
    }

    private static void plays(int seed, int towns) {
        int due = due(seed, towns);
        for (int a = 0; a < towns; a++) {
            for (int b = a + 1; b < towns; b++) {
                boolean they = due == 10 * a + b || due == 10 * b + a;
                Check.due("seed " + seed + ", of " + towns + ": " + a + " and " + b, play(seed, towns, a, b) ? 1 : 0, they ? 1 : 0);
            }
        }
    }

    private static void towns() {
        String sentence = "in that WEEK TOWN got modulo TOWNS plays the one that is 1 more than (got by 8 (down) modulo (TOWNS less 1)) behind it (the first one comes behind the last one)";
        Edge.of(32, sentence, "two TOWNS: always the other one", () -> {
            for (int seed = -20; seed <= 20; seed++) {
                plays(seed, 2);
            }
        });
        Edge.of(32, sentence, "the first one comes behind the last one", () -> {
            for (int towns = 3; towns <= 5; towns++) {
                boolean[] met = new boolean[25 * 2];
                for (int seed = -80; seed <= 80; seed++) {
                    met[due(seed, towns)] = true;
                    plays(seed, towns);
                }
                for (int a = 0; a < towns; a++) {
                    for (int b = 0; b < towns; b++) {
                        Check.due("of " + towns + ", " + a + " and " + b + " are met", met[10 * a + b] ? 1 : 0, a == b ? 0 : 1);
                    }
                }
            }
        });
    }

    private static void seeds() {
        Edge.of(32, "ahead of each the seed becomes seed times 1103515245 and 12345", "the least, the greatest, 0: it wraps around", () -> {
            for (int seed : new int[] {0, 1, -1, Edge.MIN, Edge.MIN + 1, Edge.MAX, Edge.MAX - 1, 65536, 1 << 30}) {
                plays(seed, 3);
                plays(seed, 5);
            }
        });
        Edge.of(32, "bits 16 to 30 of it are got", "bit 31 is not, bits 16 and 30 are, bit 15 is not", () -> {
            boolean[] met = new boolean[8];
            for (int seed = 0; seed < 64; seed++) {
                int s = seed * 1103515245 + 12345;
                met[(s >>> 31) * 4 + (s >>> 30 & 1) * 2 + (s >>> 16 & 1)] = true;
                plays(seed, 4);
                plays(seed, 5);
            }
            for (int i = 0; i < 8; i++) {
                Check.due("bits 31, 30, 16 as " + i + " are met", met[i] ? 1 : 0, 1);
            }
        });
        Edge.of(32, "ahead of each the seed becomes seed times 1103515245 and 12345", "from WEEK to WEEK: it wraps around", () -> {
            for (int seed : new int[] {0, -1, Edge.MIN, Edge.MAX}) {
                String text = "plain 9;proud 6;wise 17;careless 20;wise 3;game 0 1;";
                LoseLeague x = Check.told(text);
                LoseLeague y = Check.told(text);
                int s = seed;
                int lost = 0;
                for (int week = 0; week < 60; week++) {
                    int due = due(s, 5);
                    y.strike(0);
                    y.book(due / 10, due % 10);
                    lost += y.weeks(1);
                    s = s * 1103515245 + 12345;
                }
                Check.due("drift(" + seed + ", 60, 0)", x.drift(seed, 60, 0), y.rule(5));
                Check.due("drift(" + seed + ", 60, 1)", x.drift(seed, 60, 1), lost);
            }
        });
    }

    private static void theYear() {
        String sentence = "in place of its FIXTURE (the YEAR is over as it would be)";
        Edge.of(32, sentence, "the WEEK ahead of the last, the last", () -> {
            LoseLeague x = Check.told("plain 5;plain 5;" + "game0 1;".repeat(10));
            Check.due("drift(1, 9, 0)", x.drift(1, 9, 0), 0);
            Check.due("drift(1, 10, 0)", x.drift(1, 10, 0), 2);
            Check.due("drift(1, 59, 0)", x.drift(1, 59, 0), 10);
            Check.due("drift(1, 60, 0)", x.drift(1, 60, 0), 12);
            x.weeks(9);
            Check.due("from WEEK 9 on: drift(1, 1, 0)", x.drift(1, 1, 0), 2);
        });
        Edge.of(32, sentence, "no FIXTURES: they play, no YEAR is ever over", () -> {
            LoseLeague x = Check.told("plain 5;plain 4;");
            x.alter(0, 3, 7);
            Check.due("drift(1, 60, 1)", x.drift(1, 60, 1), 60);
            Check.due("drift(1, 60, 0)", x.drift(1, 60, 0), 7);
        });
        Edge.of(32, sentence, "also where nothing would be lost by its FIXTURE", () -> {
            // two TOWNS that DRAW are booked; of three the seed picks those that do not
            LoseLeague x = Check.told("plain 9;plain 9;plain 1;game 0 1;");
            Check.due("runs(1, 0)", x.runs(1, 0), 0);
            int seed = 0;
            while (due(seed, 3) / 10 != 2 && due(seed, 3) % 10 != 2) {
                seed++;
            }
            Check.due("drift(" + seed + ", 1, 1)", x.drift(seed, 1, 1), 1);
            Check.due("drift(" + seed + ", 1, 0)", x.drift(seed, 1, 0), 2);
        });
        Edge.of(32, "OWED in the end (what 0)", "99 at most each; WEEK may be 1000 then", () -> {
            LoseLeague x = Check.told("plain 5;plain 5;game 0 1;");
            x.alter(0, 3, 98);
            x.alter(1, 3, 99);
            Check.due("drift(1, 1, 0)", x.drift(1, 1, 0), 198);
            Check.due("drift(1, 60, 0)", x.drift(1, 60, 0), 198);
            LoseLeague late = Check.told("plain 5;plain 4;game 0 1;");
            Edge.passWeeks(late, 999);
            Check.due("in WEEK 999", late.drift(1, 60, 1), 60);
        });
    }
}
