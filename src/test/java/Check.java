/** What the tests share: counting wrong answers, feeding texts, looking at all that can be seen. */
final class Check {
    private static int asked = 0;
    private static int wrong = 0;
    private static String about = "";

    private Check() {
    }

    static void due(String call, long got, long want) {
        asked++;
        if (got != want) {
            wrong(call + " answered " + got + ", due is " + want);
        }
    }

    static void same(String what, String got, String want) {
        asked++;
        if (!got.equals(want)) {
            wrong(what + ": got\n  " + got + "\ndue is\n  " + want);
        }
    }

    static void wrong(String line) {
        wrong++;
        if (wrong <= 50) {
            System.out.println(about + line);
        }
    }

    /** What every line that is wrong from now on begins with. */
    static void about(String words) {
        about = words;
    }

    static int howManyWrong() {
        return wrong;
    }

    static void finish(String name) {
        System.out.println(name + ": " + asked + " asked, " + wrong + " wrong");
        if (wrong != 0 || asked == 0) {
            System.exit(1);
        }
    }

    static void feed(LoseLeague x, String text) {
        for (int i = 0; i < text.length(); i++) {
            x.feed(text.charAt(i));
        }
    }

    static int tell(LoseLeague x, String text) {
        feed(x, text);
        return x.text();
    }

    /** A new object that has been told a text which it must take. */
    static LoseLeague told(String text) {
        LoseLeague x = new LoseLeague();
        if (tell(x, text) < 0) {
            wrong("not taken: " + text);
        }
        return x;
    }

    /** All that can be asked without a change; images, SEEN and SHEETS by what they let be known. */
    static String state(LoseLeague x) {
        StringBuilder s = new StringBuilder();
        for (int what = 0; what <= 5; what++) {
            s.append(" rule").append(what).append('=').append(x.rule(what));
        }
        for (int t = 0; t < 5; t++) {
            s.append(" town").append(t).append('=');
            for (int what = 0; what <= 4; what++) {
                s.append(x.town(t, what)).append(',');
            }
            s.append("as seen ").append(x.kinds(t)).append(',').append(x.strengths(t));
        }
        for (int i = 0; i < 10; i++) {
            s.append(" fixture").append(i).append('=').append(x.fixture(i, 0)).append('-').append(x.fixture(i, 1));
        }
        for (int what = 0; what <= 5; what++) {
            s.append(" count").append(what).append('=').append(x.count(what));
        }
        return s.append(" fault=").append(x.fault()).append(" torn=").append(x.torn()).toString();
    }
}
