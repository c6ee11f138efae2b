import java.lang.reflect.Constructor;
import java.lang.reflect.Field;
import java.lang.reflect.Member;
import java.lang.reflect.Method;
import java.lang.reflect.Modifier;
import java.util.TreeSet;

/** The document's face, no more and no less; promise 1: a new object. */
public final class FaceTest {
    private static final String[] METHODS = {
        "int feed(int)", "int end(int)", "int text()", "int fault()", "int rule(int)", "int town(int,int)",
        "int fixture(int,int)", "int game(int,int)", "int alter(int,int,int)", "int lend(int,int,int)",
        "int book(int,int)", "int strike(int)", "int weeks(int)", "int runs(int,int)", "int ahead(int,int,int)",
        "int loser(int)", "int loses(int)", "int order(int)", "int loan(int,int)", "int swap(int,int)",
        "int skip(int,int)", "int most(int,int)", "int kind(int,int,int)", "long luck(int,int,int,int)",
        "long mean(int,int,int)", "int see(int,int)", "int forget(int)", "int kinds(int)", "int strengths(int)",
        "int ask(int,int)", "int drift(int,int,int)", "int keep(int)", "int back(int)", "int sheet(int,int,int)",
        "int lay(int,int,int)", "int read(int,int,int,int)", "int torn()", "int count(int)"
    };

    private static String signature(Method m) {
        StringBuilder s = new StringBuilder(m.getReturnType().getName()).append(' ').append(m.getName()).append('(');
        for (int i = 0; i < m.getParameterCount(); i++) {
            s.append(i == 0 ? "" : ",").append(m.getParameterTypes()[i].getName());
        }
        return s.append(')').toString();
    }

    private static boolean isPrivate(Member m) {
        return Modifier.isPrivate(m.getModifiers()) || m.isSynthetic();
    }

    private static void methods() {
        TreeSet<String> want = new TreeSet<>();
        TreeSet<String> names = new TreeSet<>();
        for (String m : METHODS) {
            want.add(m);
            names.add(m.substring(m.indexOf(' ') + 1, m.indexOf('(')));
        }
        TreeSet<String> got = new TreeSet<>();
        for (Method m : LoseLeague.class.getDeclaredMethods()) {
            if (!isPrivate(m)) {
                got.add(signature(m));
                Check.due(m.getName() + " is public, not static", m.getModifiers() & Modifier.fieldModifiers(), Modifier.PUBLIC);
            } else if (names.contains(m.getName())) {
                Check.wrong("a private method bears the name " + m.getName());
            }
        }
        Check.same("methods", got.toString(), want.toString());
    }

    private static void members() {
        int publicFinal = Modifier.PUBLIC | Modifier.FINAL;
        Check.due("the class", LoseLeague.class.getModifiers(), publicFinal);
        TreeSet<String> constants = new TreeSet<>();
        for (Field f : LoseLeague.class.getDeclaredFields()) {
            if (!isPrivate(f)) {
                constants.add(f.getName());
                Check.due(f.getName(), f.getModifiers(), publicFinal | Modifier.STATIC);
            }
            Check.due(f.getName() + " static but not final",
                Modifier.isStatic(f.getModifiers()) && !Modifier.isFinal(f.getModifiers()) ? 1 : 0, 0);
        }
        Check.same("constants", constants.toString(), "[BAD, FULL, NONE, STATE]");
        Constructor<?>[] made = LoseLeague.class.getDeclaredConstructors();
        Check.due("constructors", made.length, 1);
        Check.due("its parameters", made[0].getParameterCount(), 0);
        Check.due("it is public", made[0].getModifiers(), Modifier.PUBLIC);
        for (Class<?> inside : LoseLeague.class.getDeclaredClasses()) {
            Check.due(inside.getName() + " is static", Modifier.isStatic(inside.getModifiers()) ? 1 : 0, 1);
            Check.due(inside.getName() + " is not public", Modifier.isPublic(inside.getModifiers()) ? 1 : 0, 0);
        }
    }

    private static void constants() {
        Check.due("BAD", LoseLeague.BAD, -1);
        Check.due("STATE", LoseLeague.STATE, -2);
        Check.due("FULL", LoseLeague.FULL, -3);
        Check.due("NONE", LoseLeague.NONE, -4);
    }

    private static void newObject() {
        LoseLeague x = new LoseLeague();
        int[] rules = {0, 0, 0, -4, 0, 0};
        int[] counts = {0, 0, 0, -4, 0, 0};
        for (int what = 0; what <= 5; what++) {
            Check.due("new rule(" + what + ")", x.rule(what), rules[what]);
            Check.due("new count(" + what + ")", x.count(what), counts[what]);
        }
        Check.due("new town(0, 0)", x.town(0, 0), -1);
        Check.due("new fixture(0, 0)", x.fixture(0, 0), -1);
        Check.due("new fault()", x.fault(), 0);
        Check.due("new torn()", x.torn(), 0);
        Check.due("new back(0)", x.back(0), -2);
        Check.due("new back(1)", x.back(1), -2);
        for (int k = 0; k < 4; k++) {
            Check.due("new lay(" + k + ", 0, 0)", x.lay(k, 0, 0), -11);
        }
        LoseLeague other = Check.told("plain 3;plain 4;game 0 1;");
        other.sheet(0, 0, 3);
        Check.same("objects have nothing in common", Check.state(x), Check.state(new LoseLeague()));
    }

    public static void main(String[] args) {
        methods();
        members();
        constants();
        newObject();
        Check.finish("FaceTest");
    }
}
