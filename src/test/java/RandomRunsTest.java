import java.lang.reflect.InvocationTargetException;
import java.lang.reflect.Method;
import java.util.ArrayList;
import java.util.Arrays;
import java.util.HashMap;
import java.util.List;
import java.util.Map;
import java.util.Random;
import java.util.TreeMap;

/** Long runs of calls, the same for every seed, on the class and on the model: no answer may differ. */
public final class RandomRunsTest {
    private static final int RUNS = 1500;
    private static final int CALLS = 512;

    /** Of each call the bounds of its numbers, two each; how often it is drawn comes first. */
    private static final Map<String, int[]> CALLED = new TreeMap<>();

    static {
        CALLED.put("feed", new int[] {2, 0, 127});
        CALLED.put("end", new int[] {1, 0, 20});
        CALLED.put("text", new int[] {0});
        CALLED.put("fault", new int[] {1});
        CALLED.put("rule", new int[] {4, 0, 5});
        CALLED.put("town", new int[] {8, 0, 4, 0, 4});
        CALLED.put("fixture", new int[] {4, 0, 9, 0, 1});
        CALLED.put("game", new int[] {4, 0, 4, 0, 4});
        CALLED.put("alter", new int[] {8, 0, 4, 0, 3, 0, 20});
        CALLED.put("lend", new int[] {4, 0, 4, 0, 4, 0, 8});
        CALLED.put("book", new int[] {5, 0, 4, 0, 4});
        CALLED.put("strike", new int[] {2, 0, 10});
        CALLED.put("weeks", new int[] {4, 0, 30});
        CALLED.put("runs", new int[] {3, 0, 60, 0, 3});
        CALLED.put("ahead", new int[] {3, 0, 4, 0, 60, 0, 2});
        CALLED.put("loser", new int[] {3, 0, 60});
        CALLED.put("loses", new int[] {3, 0, 4});
        CALLED.put("order", new int[] {4, 10, 14});
        CALLED.put("loan", new int[] {3, 0, 60, 0, 1});
        CALLED.put("swap", new int[] {3, 0, 60, 0, 1});
        CALLED.put("skip", new int[] {3, 0, 60, 0, 1});
        CALLED.put("most", new int[] {3, 0, 4, 0, 60});
        CALLED.put("kind", new int[] {3, 0, 4, 0, 60, 0, 1});
        CALLED.put("luck", new int[] {1, 0, 10, 0, 4, 0, 8, 0, 1});
        CALLED.put("mean", new int[] {1, 0, 10, 0, 8, 0, 1});
        CALLED.put("see", new int[] {3, 0, 20, 0, 9});
        CALLED.put("forget", new int[] {2, 0, 6});
        CALLED.put("kinds", new int[] {3, 0, 4});
        CALLED.put("strengths", new int[] {3, 0, 4});
        CALLED.put("ask", new int[] {1, 0, 4, 0, 1});
        CALLED.put("drift", new int[] {3, -100, 100, 1, 60, 0, 1});
        CALLED.put("keep", new int[] {2, 0, 1});
        CALLED.put("back", new int[] {2, 0, 1});
        CALLED.put("sheet", new int[] {3, 0, 3, 0, 2, 0, 40});
        CALLED.put("lay", new int[] {12, 0, 3, 0, 12, 0, 4});
        CALLED.put("read", new int[] {6, 0, 3, 0, 2, 0, 12, 0, 4});
        CALLED.put("torn", new int[] {2});
        CALLED.put("count", new int[] {3, 0, 5});
    }

    private final Random random;
    private final LoseLeague real = new LoseLeague();
    private final Model model = new Model();
    private final List<String> told = new ArrayList<>();
    private static final Map<String, Method> REAL = methods(LoseLeague.class);
    private static final Map<String, Method> MODEL = methods(Model.class);
    private static final Map<String, Integer> ASKED = new TreeMap<>();
    private static final List<String> LOT = new ArrayList<>();

    private RandomRunsTest(int seed) {
        random = new Random(seed);
    }

    private static Map<String, Method> methods(Class<?> type) {
        Map<String, Method> found = new HashMap<>();
        for (Method m : type.getDeclaredMethods()) {
            int[] call = CALLED.get(m.getName());
            if (call != null && m.getParameterCount() == (call.length - 1) / 2
                    && !java.lang.reflect.Modifier.isStatic(m.getModifiers())) {
                found.put(m.getName(), m);
            }
        }
        return found;
    }

    /** An object is good for no more calls than that: what would come behind them is left out. */
    private boolean call(String name, Object... args) {
        if (told.size() >= CALLS) {
            return true;
        }
        ASKED.merge(name, 1, Integer::sum);
        String line = name + Arrays.toString(args);
        try {
            long got = ((Number) REAL.get(name).invoke(real, args)).longValue();
            long want = ((Number) MODEL.get(name).invoke(model, args)).longValue();
            told.add(line + " " + got);
            Check.due(line, got, want);
            return got == want;
        } catch (InvocationTargetException e) {
            Check.wrong(line + " threw " + e.getCause());
            return false;
        } catch (IllegalAccessException e) {
            throw new IllegalStateException(e);
        }
    }

    private int number(int lo, int hi) {
        switch (random.nextInt(60)) {
            case 0: return lo - 1;
            case 1: return hi + 1;
            case 2: return random.nextBoolean() ? Integer.MIN_VALUE : Integer.MAX_VALUE;
            case 3: return random.nextInt();
            case 4: return random.nextBoolean() ? lo : hi;
            default: return lo + random.nextInt(hi - lo + 1);
        }
    }

    /** A text that is mostly right; some get one to three of their bytes changed. */
    private String randomText() {
        String[] kinds = {"plain", "proud", "wise", "careless"};
        StringBuilder s = new StringBuilder();
        int towns = random.nextInt(12) == 0 ? random.nextInt(8) : 2 + random.nextInt(4);
        int games = random.nextInt(8) == 0 ? random.nextInt(14) : random.nextInt(6);
        for (int i = 0; i < towns; i++) {
            s.append(kinds[random.nextInt(4)]).append(blank()).append(number(0, 20) % 100).append(";").append(blank());
        }
        for (int i = 0; i < games; i++) {
            int a = random.nextInt(Math.max(2, towns));
            int b = (a + 1 + random.nextInt(Math.max(1, towns - 1))) % Math.max(2, towns);
            s.append("game").append(blank()).append(a).append(' ').append(blank()).append(b).append(";");
        }
        if (random.nextInt(3) == 0) {
            String signs = "  ;;0129apz!A{/:@`\u007f\u0000";
            for (int i = random.nextInt(3); i >= 0 && s.length() > 0; i--) {
                int at = random.nextInt(s.length());
                char c = signs.charAt(random.nextInt(signs.length()));
                switch (random.nextInt(4)) {
                    case 0: s.setCharAt(at, c); break;
                    case 1: s.insert(at, c); break;
                    case 2: s.deleteCharAt(at); break;
                    default: s.setLength(at); break;
                }
            }
        }
        return s.toString();
    }

    private String blank() {
        return random.nextInt(4) == 0 ? " " : "";
    }

    private boolean tellText() {
        call("end", 0);
        String text = randomText();
        for (int i = 0; i < text.length(); i++) {
            if (!call("feed", (int) text.charAt(i))) {
                return false;
            }
        }
        return call("text") && call("fault");
    }

    /** So far that WEEK can not go on for long. */
    private boolean passMostWeeks() {
        for (int i = 0; i < 33; i++) {
            if (!call("weeks", 30)) {
                return false;
            }
        }
        return true;
    }

    private boolean run() {
        if (!tellText() || random.nextInt(12) == 0 && !passMostWeeks()) {
            return false;
        }
        while (told.size() < CALLS) {
            boolean well;
            if (random.nextInt(120) == 0) {
                well = tellText();
            } else {
                String name = LOT.get(random.nextInt(LOT.size()));
                int[] bounds = CALLED.get(name);
                Object[] args = new Object[(bounds.length - 1) / 2];
                for (int i = 0; i < args.length; i++) {
                    args[i] = number(bounds[2 * i + 1], bounds[2 * i + 2]);
                }
                if (name.equals("order") && random.nextInt(3) == 0) {
                    args[0] = 0;
                }
                if (name.equals("alter") && random.nextInt(4) == 0) {
                    args[2] = number(95, 99);
                }
                well = call(name, args);
            }
            if (!well) {
                return false;
            }
        }
        return true;
    }

    public static void main(String[] args) {
        CALLED.forEach((name, bounds) -> {
            for (int i = 0; i < bounds[0]; i++) {
                LOT.add(name);
            }
        });
        for (int seed = 0; seed < RUNS; seed++) {
            RandomRunsTest run = new RandomRunsTest(seed);
            if (!run.run()) {
                System.out.println("run " + seed + ", its calls:\n" + String.join("\n", run.told));
                break;
            }
        }
        for (String name : CALLED.keySet()) {
            if (!ASKED.containsKey(name)) {
                Check.wrong(name + " was never called");
            }
        }
        Check.finish("RandomRunsTest");
    }
}
