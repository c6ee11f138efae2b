import java.io.IOException;
import java.nio.file.Files;
import java.nio.file.Path;
import java.util.regex.Matcher;
import java.util.regex.Pattern;

/** Rules of LANGUAGE.md that a look at the file's text can tell; its first argument is the file. */
public final class LanguageTest {
    private static final String[] FORBIDDEN = {
        "\\bimport\\b", "\\bpackage\\b", "\\bthrow\\b", "\\bthrows\\b", "\\btry\\b", "\\bcatch\\b",
        "\\bsynchronized\\b", "\\bassert\\b", "->", "::", "\\bObject\\b", "\\bSystem\\.(?!arraycopy)", "Exact\\b",
        "\\bnative\\b", "\\bvolatile\\b", "\\bThread\\b", "\\brandom\\b", "\\bnull\\b", "@", "\\?\\?",
        "\\bwhile \\(true\\)", "for \\(;;\\)", "\\bprotected\\b", "\\bhashCode\\b", "\\btoString\\b"
    };

    private static String withoutComments(String source) {
        return source.replaceAll("(?s)/\\*.*?\\*/", "").replaceAll("//[^\n]*", "");
    }

    private static int found(String pattern, String source) {
        Matcher m = Pattern.compile(pattern).matcher(source);
        int n = 0;
        while (m.find()) {
            n++;
        }
        return n;
    }

    /** What a call makes is never given back, so that nothing is made but by constructors. */
    private static void madeOnce(String source) {
        for (String line : source.split("\n")) {
            boolean byConstructor = line.matches(" +(private )?final .* = new .*;")
                || line.matches(" +(images|sheets)\\[k\\] = new [A-Za-z]+\\(\\);");
            Check.due("made by a call: " + line, found("\\bnew ", line) > 0 && !byConstructor ? 1 : 0, 0);
        }
    }

    private static void lengths(String source) {
        int start = 0;
        int line = 0;
        for (String s : source.split("\n")) {
            line++;
            if (s.matches("(    |        )[^ ].*\\) \\{")) {
                start = line;
            }
            if (s.matches("(    |        )\\}")) {
                Check.due("lines of the method that ends at line " + line, line - start > 60 && start > 0 ? 1 : 0, 0);
                start = 0;
            }
        }
    }

    public static void main(String[] args) throws IOException {
        String whole = Files.readString(Path.of(args.length > 0 ? args[0] : "src/main/java/LoseLeague.java"));
        String source = withoutComments(whole);
        for (String pattern : FORBIDDEN) {
            Check.due("'" + pattern + "' in the file", found(pattern, source), 0);
        }
        Check.due("classes above twelve", Math.max(0, found("\\bclass [A-Z]", source) - 12), 0);
        Check.due("classes inside that are not private and static",
            found("\\bclass [A-Z]", source) - found("private static final class [A-Z]", source), 1);
        Check.due("public but the face", found("\\bpublic\\b", source), 1 + 1 + 1 + 38);
        madeOnce(source);
        lengths(whole);
        Check.finish("LanguageTest");
    }
}
