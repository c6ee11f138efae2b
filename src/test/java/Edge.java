import java.io.IOException;
import java.nio.file.Files;
import java.nio.file.Path;
import java.util.ArrayList;
import java.util.BitSet;
import java.util.List;
import java.util.function.ToLongFunction;

/**
 * A sentence of the document that names a boundary case, with a test of its own. The sentence stands
 * here in the document's own words, so that one that is changed there is missed here.
 */
final class Edge {
    static final int TERMS = 0;
    static final int PROMISES = 39;
    static final int MIN = Integer.MIN_VALUE;
    static final int MAX = Integer.MAX_VALUE;

    private static final int[] TESTED = new int[PROMISES + 1];
    private static final List<String> BROKEN = new ArrayList<>();
    private static final BitSet[] QUOTED = new BitSet[PROMISES + 1];
    private static String[] sections = {};

    private Edge() {
    }

    /** Section 0 is 'Terms'; each other one is what stands behind the face of its call. */
    static void readDocument(Path path) throws IOException {
        sections = Files.readString(path).split("\n## (?=Promise )");
        Check.due("promises of the document", sections.length - 1, PROMISES);
        for (int i = 0; i < sections.length; i++) {
            sections[i] = i == TERMS
                ? between(sections[i], "## Terms\n", "\nAhead of the calls")
                : between(sections[i], ")`: ", "\n## Not promised");
        }
        for (int i = 0; i <= PROMISES; i++) {
            QUOTED[i] = new BitSet();
        }
    }

    private static String between(String text, String start, String end) {
        int from = text.indexOf(start);
        int to = text.indexOf(end);
        Check.due("'" + start.trim() + "' stands in the document", from < 0 ? 0 : 1, 1);
        return text.substring(from < 0 ? 0 : from + start.length(), to < 0 ? text.length() : to);
    }

    private static void noteQuote(int promise, String sentence) {
        int at = promise < sections.length ? sections[promise].indexOf(sentence) : -1;
        if (at < 0) {
            Check.wrong("the document does not say so");
        }
        while (at >= 0) {
            QUOTED[promise].set(at, at + sentence.length());
            at = sections[promise].indexOf(sentence, at + 1);
        }
    }

    /** What no test quotes, but for what only parts the document's lines. */
    private static void everyWordIsQuoted() {
        for (int promise = 0; promise < sections.length; promise++) {
            StringBuilder left = new StringBuilder();
            for (int i = 0; i < sections[promise].length(); i++) {
                left.append(QUOTED[promise].get(i) ? '\n' : sections[promise].charAt(i));
            }
            for (String words : left.toString().split("\n+")) {
                String bare = words.replaceFirst("^(```text|======== [12])", "").replaceAll("[ .,:;`]", "");
                Check.due("promise " + promise + ", quoted by no test: '" + words.trim() + "'", bare.length(), 0);
            }
        }
    }

    /** promise 0: the terms. */
    static void of(int promise, String sentence, String which, Runnable test) {
        String name = (promise == TERMS ? "terms" : "promise " + promise) + ", '" + sentence + "', " + which;
        int before = Check.howManyWrong();
        Check.about(name + ": ");
        noteQuote(promise, sentence);
        try {
            test.run();
        } catch (RuntimeException | StackOverflowError e) {
            Check.wrong("threw " + e);
        }
        Check.about("");
        TESTED[promise]++;
        if (Check.howManyWrong() > before) {
            BROKEN.add(name);
        }
    }

    static void finish() {
        int all = 0;
        for (int promise = 0; promise <= PROMISES; promise++) {
            Check.due("a test for promise " + promise, TESTED[promise] > 0 ? 1 : 0, 1);
            all += TESTED[promise];
        }
        everyWordIsQuoted();
        for (String name : BROKEN) {
            System.out.println("does not hold: " + name);
        }
        System.out.println(all + " sentences, " + BROKEN.size() + " do not hold");
    }

    /** Each of the numbers is refused as BAD. */
    static void bad(String call, ToLongFunction<Integer> f, int... numbers) {
        for (int n : numbers) {
            Check.due(call.replace("#", String.valueOf(n)), f.applyAsLong(n), -1);
        }
    }

    /** None of the numbers is refused as BAD. */
    static void taken(String call, ToLongFunction<Integer> f, int... numbers) {
        for (int n : numbers) {
            long got = f.applyAsLong(n);
            if (got == -1) {
                Check.wrong(call.replace("#", String.valueOf(n)) + " is refused");
            }
        }
    }

    /** Whole weeks, as many as are asked for: a call of weeks() runs 30 at most. */
    static void passWeeks(LoseLeague x, int n) {
        for (int left = n; left > 0; left -= 30) {
            x.weeks(Math.min(30, left));
        }
    }
}
