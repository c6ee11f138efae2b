import java.io.IOException;
import java.lang.reflect.Field;
import java.lang.reflect.Modifier;
import java.nio.file.Files;
import java.nio.file.Path;
import java.util.ArrayList;
import java.util.List;
import java.util.Map;
import java.util.TreeMap;
import java.util.regex.Matcher;
import java.util.regex.Pattern;

/** Rules of LANGUAGE.md that a look at the file's text can tell; its first argument is the file. */
public final class LanguageTest {
    private static final String[] FORBIDDEN = {
        "\\bimport\\b", "\\bpackage\\b", "\\bthrow\\b", "\\bthrows\\b", "\\btry\\b", "\\bcatch\\b",
        "\\bsynchronized\\b", "\\bassert\\b", "->", "::", "\\bObject\\b", "\\bSystem\\.(?!arraycopy)", "Exact\\b",
        "\\bnative\\b", "\\bvolatile\\b", "\\bThread\\b", "\\brandom\\b", "\\bnull\\b", "@", "\\?\\?",
        "\\bwhile \\(true\\)", "for \\(;;\\)", "\\bprotected\\b", "\\bhashCode\\b", "\\btoString\\b"
    };

    private static String withoutComments(String source) {
        return source.replaceAll("(?s)/\\*.*?\\*/", "").replaceAll("//[^\n]*", "");
    }

    private static int found(String pattern, String source) {
        Matcher m = Pattern.compile(pattern).matcher(source);
        int n = 0;
        while (m.find()) {
            n++;
        }
        return n;
    }

    /** What a call makes is never given back, so that nothing is made but by constructors. */
    private static void madeOnce(String source) {
        for (String line : source.split("\n")) {
            boolean byConstructor = line.matches(" +(private )?final .* = new .*;")
                || line.matches(" +(images|sheets)\\[k\\] = new [A-Za-z]+\\(\\);");
            Check.due("made by a call: " + line, found("\\bnew ", line) > 0 && !byConstructor ? 1 : 0, 0);
        }
    }

    private static void lengths(String source) {
        int start = 0;
        int line = 0;
        for (String s : source.split("\n")) {
            line++;
            if (s.matches("(    |        )[^ ].*\\) \\{")) {
                start = line;
            }
            if (s.matches("(    |        )\\}")) {
                Check.due("lines of the method that ends at line " + line, line - start > 60 && start > 0 ? 1 : 0, 0);
                start = 0;
            }
        }
    }

    /** The text of each method by its name; methods of one name in several classes are taken as one. */
    private static Map<String, String> methods(String source) {
        Map<String, String> bodies = new TreeMap<>();
        Matcher m = Pattern.compile("(?ms)^( +)(?:[a-z]+ )*[A-Za-z]+(?:\\[\\])? (\\w+)\\(([^)]*)\\) \\{\n(.*?)^\\1\\}").matcher(source);
        while (m.find()) {
            bodies.merge(m.group(2), m.group(4), String::concat);
            Check.due("parameters of " + m.group(2), m.group(3).split(",").length > 7 ? 1 : 0, 0);
        }
        return bodies;
    }

    /** The longest row of calls that begins with a method, those of the library counted too; none may come twice. */
    private static List<String> longestRow(String name, Map<String, String> bodies, List<String> open) {
        List<String> longest = new ArrayList<>();
        if (open.contains(name)) {
            Check.wrong(name + " calls itself: " + open);
            return longest;
        }
        List<String> within = new ArrayList<>(open);
        within.add(name);
        Matcher call = Pattern.compile("(?<!new )\\b(\\w+)\\(").matcher(bodies.getOrDefault(name, ""));
        while (call.find()) {
            if (!call.group(1).matches("if|for|while|switch|return")) {
                List<String> row = longestRow(call.group(1), bodies, within);
                longest = row.size() > longest.size() ? row : longest;
            }
        }
        longest = new ArrayList<>(longest);
        longest.add(0, name);
        return longest;
    }

    private static void depths(String source) {
        Map<String, String> bodies = methods(source);
        Check.due("methods found", bodies.size() > 90 ? 1 : 0, 1);
        for (String name : bodies.keySet()) {
            List<String> row = longestRow(name, bodies, new ArrayList<>());
            Check.due("calls deeper than eight: " + row, row.size() > 8 ? 1 : 0, 0);
        }
    }

    private static void fields() {
        for (Class<?> c : LoseLeague.class.getNestHost().getNestMembers()) {
            int fields = 0;
            for (Field f : c.getDeclaredFields()) {
                fields += Modifier.isStatic(f.getModifiers()) ? 0 : 1;
                Check.due(f + " is static but not final", Modifier.isStatic(f.getModifiers()) && !Modifier.isFinal(f.getModifiers()) ? 1 : 0, 0);
            }
            Check.due("fields of " + c.getName() + " above twenty", Math.max(0, fields - 20), 0);
        }
    }

    public static void main(String[] args) throws IOException {
        String whole = Files.readString(Path.of(args.length > 0 ? args[0] : "src/main/java/LoseLeague.java"));
        String source = withoutComments(whole);
        for (String pattern : FORBIDDEN) {
            Check.due("'" + pattern + "' in the file", found(pattern, source), 0);
        }
        Check.due("classes above twelve", Math.max(0, found("\\bclass [A-Z]", source) - 12), 0);
        Check.due("classes inside that are not private and static",
            found("\\bclass [A-Z]", source) - found("private static final class [A-Z]", source), 1);
        Check.due("public but the face", found("\\bpublic\\b", source), 1 + 1 + 1 + 38);
        madeOnce(source);
        lengths(whole);
        depths(source);
        fields();
        Check.finish("LanguageTest");
    }
}
