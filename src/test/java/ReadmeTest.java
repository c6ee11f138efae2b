import java.io.File;
import java.io.IOException;
import java.lang.reflect.Method;
import java.lang.reflect.Modifier;
import java.nio.file.Files;
import java.nio.file.Path;
import java.util.ArrayList;
import java.util.Comparator;
import java.util.List;
import java.util.TreeSet;
import java.util.regex.Matcher;
import java.util.regex.Pattern;
import java.util.stream.Stream;

/** What README.md says is so: its examples answer as told, its commands run, its lists leave nothing out. */
public final class ReadmeTest {
    /** 'x.town(2, 4);  // 6: why' */
    private static final Pattern EXAMPLE = Pattern.compile("(x\\.\\w+\\([^;]*\\)); +// (-?\\d+|BAD|STATE|FULL|NONE): .*");
    private static String page;
    private static Path work;

    private static List<String> blocks(String language) {
        List<String> found = new ArrayList<>();
        Matcher m = Pattern.compile("(?s)\n```" + language + "\n(.*?)\n```\n").matcher(page);
        while (m.find()) {
            found.add(m.group(1));
        }
        return found;
    }

    private static int run(String... command) throws IOException, InterruptedException {
        ProcessBuilder builder = new ProcessBuilder(command).inheritIO();
        builder.environment().put("TMPDIR", work.toString());
        return builder.start().waitFor();
    }

    /** All examples are one run on one object, so that they are compiled and run as one. */
    private static void examples() throws IOException, InterruptedException {
        StringBuilder program = new StringBuilder("public final class Examples {\n"
            + "    static int wrong;\n"
            + "    static void due(String call, long got, long want) {\n"
            + "        if (got != want) {\n"
            + "            wrong++;\n"
            + "            System.out.println(\"README.md: \" + call + \" answered \" + got);\n"
            + "        }\n"
            + "    }\n"
            + "    public static void main(String[] args) {\n");
        TreeSet<String> shown = new TreeSet<>();
        for (String line : String.join("\n", blocks("java")).split("\n")) {
            Matcher m = EXAMPLE.matcher(line);
            if (m.matches()) {
                String want = Character.isLetter(m.group(2).charAt(0)) ? "LoseLeague." + m.group(2) : m.group(2);
                program.append("due(\"").append(m.group(1)).append("\", ").append(m.group(1)).append(", ").append(want).append(");\n");
                shown.add(m.group(1).substring(2, m.group(1).indexOf('(')));
            } else {
                Check.due("an answer that is not told as the others are: " + line, line.contains("//") ? 1 : 0, 0);
                program.append(line).append('\n');
            }
        }
        program.append("System.exit(wrong == 0 ? 0 : 1);\n    }\n}\n");
        Path file = work.resolve("Examples.java");
        Files.writeString(file, program.toString());
        String classes = System.getProperty("java.class.path");
        Check.due("compiling the examples", run("javac", "-cp", classes, "-d", work.toString(), file.toString()), 0);
        Check.due("the examples", run("java", "-cp", classes + File.pathSeparator + work, "Examples"), 0);
        shown.add("feed");
        Check.same("calls that have an example", shown.toString(), calls().toString());
    }

    private static TreeSet<String> calls() {
        TreeSet<String> names = new TreeSet<>();
        for (Method m : LoseLeague.class.getDeclaredMethods()) {
            if (Modifier.isPublic(m.getModifiers())) {
                names.add(m.getName());
            }
        }
        return names;
    }

    /** .ci/run would run this test again; what lies under ../shared is not ours, and may be named otherwise one day. */
    private static boolean canBeRunHere(String block) {
        Matcher shared = Pattern.compile("\\.\\./shared/tests/\\w+\\.java").matcher(block);
        return !block.contains(".ci/run") && (!shared.find() || Files.exists(Path.of(shared.group())));
    }

    private static void commands() throws IOException, InterruptedException {
        List<String> all = blocks("sh");
        Check.due("all tests, one, one under ../shared/tests", all.size(), 3);
        Check.same("all tests", all.get(0), ".ci/run");
        Check.due(".ci/run is there", Files.exists(Path.of(".ci/run")) ? 1 : 0, 1);
        for (String block : all) {
            if (canBeRunHere(block)) {
                Check.due("sh: " + block, run("sh", "-ec", block), 0);
            }
        }
    }

    private static void lists() throws IOException {
        for (String name : calls()) {
            Check.due("the list names " + name, page.contains("`" + name + "`") ? 1 : 0, 1);
        }
        TreeSet<String> tests = new TreeSet<>();
        try (Stream<Path> files = Files.list(Path.of("src/test/java"))) {
            files.map(f -> f.getFileName().toString()).filter(f -> f.endsWith("Test.java"))
                .forEach(f -> tests.add(f.substring(0, f.length() - ".java".length())));
        }
        TreeSet<String> told = new TreeSet<>();
        Matcher m = Pattern.compile("\n\\| `(\\w+Test)` ").matcher(page);
        while (m.find()) {
            told.add(m.group(1));
        }
        Check.same("tests", told.toString(), tests.toString());
        TreeSet<String> paths = new TreeSet<>();
        Matcher path = Pattern.compile("`(src/[\\w./]+)`").matcher(page);
        while (path.find()) {
            paths.add(path.group(1));
        }
        for (String p : paths) {
            Check.due(p + " is there", Files.exists(Path.of(p)) ? 1 : 0, 1);
        }
    }

    private static void remove(Path directory) throws IOException {
        try (Stream<Path> files = Files.walk(directory)) {
            for (Path p : files.sorted(Comparator.reverseOrder()).toList()) {
                Files.delete(p);
            }
        }
    }

    public static void main(String[] args) throws IOException, InterruptedException {
        page = Files.readString(Path.of("README.md"));
        work = Files.createTempDirectory("readme");
        try {
            examples();
            commands();
            lists();
        } finally {
            remove(work);
        }
        Check.finish("ReadmeTest");
    }
}
