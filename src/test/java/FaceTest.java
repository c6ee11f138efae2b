import java.io.IOException;
import java.lang.reflect.Constructor;
import java.lang.reflect.Field;
import java.lang.reflect.Member;
import java.lang.reflect.Method;
import java.lang.reflect.Modifier;
import java.nio.file.Files;
import java.nio.file.Path;
import java.util.ArrayList;
import java.util.List;
import java.util.TreeSet;
import java.util.regex.Matcher;
import java.util.regex.Pattern;

/** The document's face, no more and no less; promise 1: a new object. */
public final class FaceTest {
    private static String document;
    private static String source;
    /** As they stand in the document: 'int town(int t, int what)'. */
    private static final List<String> CALLS = new ArrayList<>();

    private static List<String> allOf(String pattern, String text) {
        List<String> found = new ArrayList<>();
        Matcher m = Pattern.compile(pattern).matcher(text);
        while (m.find()) {
            found.add(m.group(1));
        }
        return found;
    }

    private static void readFace(String file) throws IOException {
        document = Files.readString(Path.of("../shared/DOC.md"));
        source = Files.readString(Path.of(file));
        CALLS.addAll(allOf("\n    public ((?:int|long) \\w+\\([^)]*\\));", document));
        Check.due("calls of the document's face", CALLS.size(), 38);
    }

    private static String nameOf(String call) {
        return call.substring(call.indexOf(' ') + 1, call.indexOf('('));
    }

    /** Each promise but the first tells its call as the face does, in the order of the face. */
    private static void promises() {
        List<String> promised = allOf("\n`([^`]*)`: ", document);
        Check.due("promises", promised.size(), 39);
        Check.same("promise 1", promised.get(0), "LoseLeague()");
        Check.same("promises 2 to 39", promised.subList(1, promised.size()).toString(), CALLS.toString());
        Check.same("headings", allOf("\n## Promise \\d+: (\\w+)\n", document).toString(),
            CALLS.stream().map(FaceTest::nameOf).toList().toString());
    }

    /** What the interface says ahead of its calls stands ahead of them in the file, and the calls in their order. */
    private static void interfaceSays() {
        StringBuilder want = new StringBuilder();
        Matcher m = Pattern.compile("\nAhead of the calls (.*) the interface says: (---- [^\n]*)\\.\n").matcher(document);
        while (m.find()) {
            want.append(m.group(2)).append(": ").append(m.group(1).replaceAll("[`,]", "")).append('\n');
        }
        StringBuilder got = new StringBuilder();
        Matcher line = Pattern.compile("\n    (?:// (---- [^\n]*)|public (?:int|long) (\\w+)\\()").matcher(source);
        while (line.find()) {
            got.append(line.group(1) != null ? (got.length() > 0 ? "\n" : "") + line.group(1) + ":" : " " + line.group(2));
        }
        Check.same("what stands ahead of the calls", got.append('\n').toString(), want.toString());
    }

    private static String signature(Method m) {
        StringBuilder s = new StringBuilder(m.getReturnType().getName()).append(' ').append(m.getName()).append('(');
        for (int i = 0; i < m.getParameterCount(); i++) {
            s.append(i == 0 ? "" : ",").append(m.getParameterTypes()[i].getName());
        }
        return s.append(')').toString();
    }

    private static boolean isPrivate(Member m) {
        return Modifier.isPrivate(m.getModifiers()) || m.isSynthetic();
    }

    private static void methods() {
        TreeSet<String> want = new TreeSet<>();
        TreeSet<String> names = new TreeSet<>();
        for (String call : CALLS) {
            want.add(call.replaceAll("(int|long) \\w+(?=[,)])", "$1").replace(", ", ","));
            names.add(nameOf(call));
        }
        TreeSet<String> got = new TreeSet<>();
        for (Method m : LoseLeague.class.getDeclaredMethods()) {
            if (!isPrivate(m)) {
                got.add(signature(m));
                Check.due(m.getName() + " is public, not static", m.getModifiers() & Modifier.fieldModifiers(), Modifier.PUBLIC);
            } else if (names.contains(m.getName())) {
                Check.wrong("a private method bears the name " + m.getName());
            }
        }
        Check.same("methods", got.toString(), want.toString());
    }

    private static void members() {
        int publicFinal = Modifier.PUBLIC | Modifier.FINAL;
        Check.due("the class", LoseLeague.class.getModifiers(), publicFinal);
        TreeSet<String> constants = new TreeSet<>();
        for (Field f : LoseLeague.class.getDeclaredFields()) {
            if (!isPrivate(f)) {
                constants.add(f.getName());
                Check.due(f.getName(), f.getModifiers(), publicFinal | Modifier.STATIC);
            }
            Check.due(f.getName() + " static but not final",
                Modifier.isStatic(f.getModifiers()) && !Modifier.isFinal(f.getModifiers()) ? 1 : 0, 0);
        }
        Check.same("constants", constants.toString(), "[BAD, FULL, NONE, STATE]");
        Constructor<?>[] made = LoseLeague.class.getDeclaredConstructors();
        Check.due("constructors", made.length, 1);
        Check.due("its parameters", made[0].getParameterCount(), 0);
        Check.due("it is public", made[0].getModifiers(), Modifier.PUBLIC);
        for (Class<?> inside : LoseLeague.class.getDeclaredClasses()) {
            Check.due(inside.getName() + " is static", Modifier.isStatic(inside.getModifiers()) ? 1 : 0, 1);
            Check.due(inside.getName() + " is not public", Modifier.isPublic(inside.getModifiers()) ? 1 : 0, 0);
        }
    }

    private static void constants() {
        Check.due("BAD", LoseLeague.BAD, -1);
        Check.due("STATE", LoseLeague.STATE, -2);
        Check.due("FULL", LoseLeague.FULL, -3);
        Check.due("NONE", LoseLeague.NONE, -4);
    }

    private static void newObject() {
        LoseLeague x = new LoseLeague();
        int[] rules = {0, 0, 0, -4, 0, 0};
        int[] counts = {0, 0, 0, -4, 0, 0};
        for (int what = 0; what <= 5; what++) {
            Check.due("new rule(" + what + ")", x.rule(what), rules[what]);
            Check.due("new count(" + what + ")", x.count(what), counts[what]);
        }
        Check.due("new town(0, 0)", x.town(0, 0), -1);
        Check.due("new fixture(0, 0)", x.fixture(0, 0), -1);
        Check.due("new fault()", x.fault(), 0);
        Check.due("new torn()", x.torn(), 0);
        Check.due("new back(0)", x.back(0), -2);
        Check.due("new back(1)", x.back(1), -2);
        for (int k = 0; k < 4; k++) {
            Check.due("new lay(" + k + ", 0, 0)", x.lay(k, 0, 0), -11);
        }
        LoseLeague other = Check.told("plain 3;plain 4;game 0 1;");
        other.sheet(0, 0, 3);
        Check.same("objects have nothing in common", Check.state(x), Check.state(new LoseLeague()));
    }

    public static void main(String[] args) throws IOException {
        readFace(args.length > 0 ? args[0] : "src/main/java/LoseLeague.java");
        promises();
        interfaceSays();
        methods();
        members();
        constants();
        newObject();
        Check.finish("FaceTest");
    }
}
