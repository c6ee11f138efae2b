import java.math.BigInteger;
import java.util.ArrayList;
import java.util.Collections;
import java.util.List;
import java.util.TreeMap;
import java.util.regex.Matcher;
import java.util.regex.Pattern;

/**
 * The document written out once more, as naively as may be and with other means than the class has
 * (towns as objects, copies made freely, big fractions, patterns), for long runs to be held against.
 */
final class Model {
    static final int BAD = -1, STATE = -2, FULL = -3, NONE = -4;

    static class Plain {
        int strength, losses, owes;
        int plays() { return strength; }
        int trains() { return 1; }
        int kind() { return 0; }
    }
    static class Proud extends Plain {
        @Override int plays() { return super.plays() + 3; }
        @Override int trains() { return super.trains() + 1; }
        @Override int kind() { return 1; }
    }
    static class Wise extends Plain {
        @Override int plays() { return losses == 0 ? super.plays() / 2 : super.plays(); }
        @Override int kind() { return 2; }
    }
    static class Careless extends Wise {
        @Override int plays() { return Math.max(0, super.plays() - 2); }
        @Override int trains() { return super.trains() - 1; }
        @Override int kind() { return 3; }
    }

    static Plain town(int kind, int strength, int losses, int owes) {
        Plain p = kind == 0 ? new Plain() : kind == 1 ? new Proud() : kind == 2 ? new Wise() : new Careless();
        p.strength = strength;
        p.losses = losses;
        p.owes = owes;
        return p;
    }

    static final class World {
        List<Plain> towns = new ArrayList<>();
        List<int[]> fixtures = new ArrayList<>();
        int week = 0;

        World copy() {
            World w = new World();
            for (Plain p : towns) w.towns.add(town(p.kind(), p.strength, p.losses, p.owes));
            for (int[] f : fixtures) w.fixtures.add(f.clone());
            w.week = week;
            return w;
        }
        boolean has(int t) { return t >= 0 && t < towns.size(); }
        int weaker(int a, int b) {
            return Integer.compare(towns.get(a).plays(), towns.get(b).plays()) == 0 ? NONE
                : towns.get(a).plays() < towns.get(b).plays() ? a : b;
        }
        int play(int a, int b) {
            int l = weaker(a, b);
            if (l == NONE) return NONE;
            Plain lost = towns.get(l), won = towns.get(a + b - l);
            lost.losses = Math.min(99, lost.losses + 1);
            lost.strength = Math.min(20, lost.strength + lost.trains());
            won.strength = Math.max(0, won.strength - 1);
            return l;
        }
        int current() { return fixtures.isEmpty() ? NONE : week % fixtures.size(); }
        /** pair: who play in place of the fixture; empty: nobody does; null: the fixture itself. */
        int pass(int[] pair) {
            int loser = NONE;
            int[] players = pair != null ? pair : fixtures.isEmpty() ? new int[0] : fixtures.get(current());
            if (players.length == 2) loser = play(players[0], players[1]);
            if (!fixtures.isEmpty() && current() == fixtures.size() - 1) {
                for (Plain p : towns) {
                    if (p.losses == 0) p.owes = Math.min(99, p.owes + 1);
                    p.losses = 0;
                }
            }
            week++;
            return loser;
        }
        /** Runs n weeks: who lost in each. */
        List<Integer> go(int n) {
            List<Integer> losers = new ArrayList<>();
            for (int i = 0; i < n; i++) losers.add(pass(null));
            return losers;
        }
        int owed() { return towns.stream().mapToInt(p -> p.owes).sum(); }
        int bits() {
            int b = 0;
            for (int t = 0; t < towns.size(); t++) if (towns.get(t).losses > 0) b += 1 << t;
            return b;
        }
        int owedAfter(int n) { World w = copy(); w.go(n); return w.owed(); }
        World withKind(int t, int k) {
            World w = copy();
            Plain p = w.towns.get(t);
            w.towns.set(t, town(k, p.strength, p.losses, p.owes));
            return w;
        }
        World withStrength(int t, int s) {
            World w = copy();
            w.towns.get(t).strength = s;
            return w;
        }
    }

    World world = new World();
    String tape = "";
    int fault = 0, torn = 0;
    World[] images = new World[2];
    List<int[]> seen = new ArrayList<>();
    Object[] sheets = new Object[4];

    static boolean in(int v, int lo, int hi) { return v >= lo && v <= hi; }

    int feed(int c) {
        if (!in(c, 0, 127)) return BAD;
        if (tape.length() == 160) return FULL;
        tape += (char) c;
        return tape.length();
    }
    int end(int n) {
        if (!in(n, 0, tape.length())) return BAD;
        int had = tape.length();
        tape = tape.substring(0, n);
        return had;
    }

    private static final class Refused extends Exception {
        private static final long serialVersionUID = 1L;
        final int fault, place;
        Refused(int fault, int place) { this.fault = fault; this.place = place; }
    }
    private static final class Tokens {
        static final Pattern TOKEN = Pattern.compile(" *([a-z]+|[0-9]+|;|$)");
        final String s;
        int at = 0, place;
        String token;
        Tokens(String s) { this.s = s; }
        String next() throws Refused {
            Matcher m = TOKEN.matcher(s).region(at, s.length());
            if (!m.lookingAt()) {
                int p = at;
                while (s.charAt(p) == ' ') p++;
                throw new Refused(1, p);
            }
            token = m.group(1);
            place = m.start(1);
            at = m.end();
            if (token.matches("[0-9]{3,}")) throw new Refused(1, place);
            return token;
        }
        int number(int most) throws Refused {
            if (!next().matches("[0-9]+")) throw new Refused(2, place);
            int v = Integer.parseInt(token);
            if (v > most) throw new Refused(3, place);
            return v;
        }
        void sign() throws Refused {
            if (!next().equals(";")) throw new Refused(2, place);
        }
    }

    int text() {
        String s = tape;
        tape = "";
        try {
            World w = new World();
            int lines = 0;
            Tokens in = new Tokens(s);
            for (; !in.next().isEmpty(); lines++) {
                int kind = List.of("plain", "proud", "wise", "careless", "game").indexOf(in.token);
                if (kind < 0) throw new Refused(2, in.place);
                if (kind == 4) {
                    if (w.fixtures.size() == 10) throw new Refused(5, in.place);
                    int a = in.number(4), b = in.number(4);
                    if (a == b) throw new Refused(3, in.place);
                    in.sign();
                    w.fixtures.add(new int[] {a, b});
                } else {
                    if (w.towns.size() == 5) throw new Refused(5, in.place);
                    int strength = in.number(20);
                    in.sign();
                    w.towns.add(town(kind, strength, 0, 0));
                }
            }
            for (int[] f : w.fixtures) if (!w.has(f[0]) || !w.has(f[1])) throw new Refused(6, s.length());
            world = w;
            fault = 0;
            seen.clear();
            images = new World[2];
            return lines;
        } catch (Refused r) {
            fault = r.fault;
            return -10 - r.place;
        }
    }
    int fault() { return fault; }
    int rule(int what) {
        int[] all = {world.towns.size(), world.fixtures.size(), world.week, world.current(), world.bits(), world.owed()};
        return in(what, 0, 5) ? all[what] : BAD;
    }
    int town(int t, int what) {
        if (!world.has(t) || !in(what, 0, 4)) return BAD;
        Plain p = world.towns.get(t);
        return new int[] {p.kind(), p.strength, p.losses, p.owes, p.plays()}[what];
    }
    int fixture(int i, int what) {
        return in(i, 0, world.fixtures.size() - 1) && in(what, 0, 1) ? world.fixtures.get(i)[what] : BAD;
    }
    boolean pair(int a, int b) { return world.has(a) && world.has(b) && a != b; }
    int game(int a, int b) { return pair(a, b) ? world.weaker(a, b) : BAD; }

    int alter(int t, int what, int v) {
        if (!world.has(t) || !in(what, 0, 3) || !in(v, 0, new int[] {3, 20, 99, 99}[what])) return BAD;
        int was = town(t, what);
        Plain p = world.towns.get(t);
        if (what == 0) world = world.withKind(t, v);
        if (what == 1) p.strength = v;
        if (what == 2) p.losses = v;
        if (what == 3) p.owes = v;
        return was;
    }
    static int lendIn(World w, int a, int b, int n) {
        Plain from = w.towns.get(a), to = w.towns.get(b);
        if (from.strength < n) return STATE;
        if (to.strength + n > 20) return FULL;
        from.strength -= n;
        to.strength += n;
        return from.strength;
    }
    int lend(int a, int b, int n) { return pair(a, b) && in(n, 0, 20) ? lendIn(world, a, b, n) : BAD; }
    int book(int a, int b) {
        if (!pair(a, b)) return BAD;
        if (world.fixtures.size() == 10) return FULL;
        world.fixtures.add(new int[] {a, b});
        return world.fixtures.size();
    }
    int strike(int n) {
        int had = world.fixtures.size();
        if (!in(n, 0, had)) return BAD;
        world.fixtures = new ArrayList<>(world.fixtures.subList(0, n));
        return had;
    }

    static int lost(List<Integer> losers) { return (int) losers.stream().filter(l -> l != NONE).count(); }
    int weeks(int n) {
        if (!in(n, 0, 30)) return BAD;
        if (world.week + n >= 1000) return FULL;
        return lost(world.go(n));
    }
    int runs(int n, int what) {
        if (!in(n, 0, 60) || !in(what, 0, 3)) return BAD;
        World w = world.copy();
        List<Integer> losers = w.go(n);
        int draws = w.fixtures.isEmpty() ? 0 : Collections.frequency(losers, NONE);
        return new int[] {lost(losers), draws, w.owed(), w.bits()}[what];
    }
    int ahead(int t, int n, int what) {
        if (!world.has(t) || !in(n, 0, 60) || !in(what, 0, 2)) return BAD;
        World w = world.copy();
        w.go(n);
        Plain p = w.towns.get(t);
        return new int[] {p.strength, p.losses, p.owes}[what];
    }
    int loser(int n) { return in(n, 0, 60) ? world.copy().go(61).get(n) : BAD; }
    int loses(int t) {
        if (!world.has(t)) return BAD;
        int at = world.copy().go(61).indexOf(t);
        return at < 0 ? NONE : at;
    }

    static void orders(List<Integer> row, int n, List<List<Integer>> all) {
        if (row.size() == n) all.add(new ArrayList<>(row));
        for (int i = 0; i < n; i++) {
            if (row.contains(i)) continue;
            row.add(i);
            orders(row, n, all);
            row.remove(row.size() - 1);
        }
    }
    int order(int what) {
        int n = world.fixtures.size();
        if (what != 0 && !in(what, 10, 14)) return BAD;
        if (n > 5 || n > 0 && world.week % n != 0) return STATE;
        if (n == 0) return what == 0 ? world.owed() : NONE;
        List<List<Integer>> all = new ArrayList<>();
        orders(new ArrayList<>(), n, all);
        int least = 1000;
        List<Integer> best = null;
        for (List<Integer> row : all) {
            World w = world.copy();
            w.fixtures.clear();
            for (int i : row) w.fixtures.add(world.fixtures.get(i));
            int owed = w.owedAfter(n);
            if (owed < least) { least = owed; best = row; }
        }
        return what == 0 ? least : what - 10 < n ? best.get(what - 10) : NONE;
    }
    /** The least by value, then by key, that is below the bound. */
    static int pick(TreeMap<Integer, Integer> choices, int bound, int what) {
        if (choices.isEmpty()) return NONE;
        int least = Collections.min(choices.values());
        if (least >= bound) return NONE;
        if (what == 1) return least;
        return choices.entrySet().stream().filter(e -> e.getValue() == least).findFirst().get().getKey();
    }
    int loan(int n, int what) {
        if (!in(n, 0, 60) || !in(what, 0, 1)) return BAD;
        TreeMap<Integer, Integer> choices = new TreeMap<>();
        for (int ab = 0; ab < 50; ab++) {
            if (!pair(ab / 10, ab % 10)) continue;
            World w = world.copy();
            if (lendIn(w, ab / 10, ab % 10, 1) >= 0) choices.put(ab, w.owedAfter(n));
        }
        return pick(choices, world.owedAfter(n), what);
    }
    int swap(int n, int what) {
        if (!in(n, 0, 60) || !in(what, 0, 1)) return BAD;
        TreeMap<Integer, Integer> choices = new TreeMap<>();
        for (int j = 0; j < world.fixtures.size(); j++) {
            for (int i = 0; i < j; i++) {
                World w = world.copy();
                Collections.swap(w.fixtures, i, j);
                choices.put(10 * i + j, w.owedAfter(n));
            }
        }
        return pick(choices, world.owedAfter(n), what);
    }
    int skip(int n, int what) {
        if (!in(n, 0, 60) || !in(what, 0, 1)) return BAD;
        TreeMap<Integer, Integer> choices = new TreeMap<>();
        for (int i = 0; i < world.fixtures.size(); i++) {
            World w = world.copy();
            for (int k = 0; k < n; k++) w.pass(w.current() == i ? new int[0] : null);
            choices.put(i, w.owed());
        }
        return pick(choices, world.owedAfter(n), what);
    }
    int most(int t, int n) {
        if (!world.has(t) || !in(n, 0, 60)) return BAD;
        int best = NONE;
        for (int s = 0; s <= 20; s++) if (world.withStrength(t, s).go(n).contains(t)) best = s;
        return best;
    }
    int kind(int t, int n, int what) {
        if (!world.has(t) || !in(n, 0, 60) || !in(what, 0, 1)) return BAD;
        TreeMap<Integer, Integer> choices = new TreeMap<>();
        for (int k = 0; k < 4; k++) choices.put(k, world.withKind(t, k).owedAfter(n));
        return pick(choices, Integer.MAX_VALUE, what);
    }

    /** In parts of ten to the power of n: that t loses (t not below 0), or the sum of what is owed. */
    static BigInteger rain(World w, int v, int n, int t, boolean lost) {
        if (n == 0) return BigInteger.valueOf(t >= 0 ? lost ? 1 : 0 : w.owed());
        World wet = w.copy(), dry = w.copy();
        wet.pass(new int[0]);
        int loser = dry.pass(null);
        return rain(wet, v, n - 1, t, lost).multiply(BigInteger.valueOf(v))
            .add(rain(dry, v, n - 1, t, lost || loser == t).multiply(BigInteger.valueOf(10 - v)));
    }
    static long fraction(BigInteger a, int n, int what) {
        BigInteger b = BigInteger.TEN.pow(n);
        return (what == 0 ? a : b).divide(a.gcd(b)).longValueExact();
    }
    long luck(int v, int t, int n, int what) {
        if (!in(v, 0, 10) || !world.has(t) || !in(n, 0, 8) || !in(what, 0, 1)) return BAD;
        return fraction(rain(world, v, n, t, false), n, what);
    }
    long mean(int v, int n, int what) {
        if (!in(v, 0, 10) || !in(n, 0, 8) || !in(what, 0, 1)) return BAD;
        return fraction(rain(world, v, n, -9, false), n, what);
    }

    int see(int n, int t) {
        if (!in(n, 0, 20) || t != 9 && !world.has(t)) return BAD;
        if (seen.size() == 6) return FULL;
        seen.add(new int[] {n, t});
        return seen.size();
    }
    int forget(int n) {
        int had = seen.size();
        if (!in(n, 0, had)) return BAD;
        seen = new ArrayList<>(seen.subList(0, n));
        return had;
    }
    boolean asSeen(World w) {
        List<Integer> losers = w.copy().go(21);
        return seen.stream().allMatch(s -> losers.get(s[0]) == (s[1] == 9 ? NONE : s[1]));
    }
    int kinds(int t) {
        if (!world.has(t)) return BAD;
        int bits = 0;
        for (int k = 0; k < 4; k++) if (asSeen(world.withKind(t, k))) bits += 1 << k;
        return bits;
    }
    int strengths(int t) {
        if (!world.has(t)) return BAD;
        int bits = 0;
        for (int s = 0; s <= 20; s++) if (asSeen(world.withStrength(t, s))) bits += 1 << s;
        return bits;
    }
    int ask(int t, int what) {
        if (!world.has(t) || !in(what, 0, 1)) return BAD;
        int now = Integer.bitCount(strengths(t));
        TreeMap<Integer, Integer> choices = new TreeMap<>();
        List<int[]> before = seen;
        for (int n = 0; n <= 20; n++) {
            int worst = 0;
            for (int who : new int[] {0, 1, 2, 3, 4, 9}) {
                seen = new ArrayList<>(before);
                seen.add(new int[] {n, who});
                worst = Math.max(worst, Integer.bitCount(strengths(t)));
            }
            choices.put(n, worst);
        }
        seen = before;
        return pick(choices, now, what);
    }

    int drift(int seed, int n, int what) {
        if (!in(n, 1, 60) || !in(what, 0, 1)) return BAD;
        int size = world.towns.size();
        if (size < 2) return STATE;
        World w = world.copy();
        List<Integer> losers = new ArrayList<>();
        long s = seed & 0xffffffffL;
        for (int i = 0; i < n; i++) {
            s = (s * 1103515245L + 12345L) & 0xffffffffL;
            int got = (int) (s / 65536 % 32768);
            int a = got % size, b = a + 1 + got / 8 % (size - 1);
            losers.add(w.pass(new int[] {a, b < size ? b : b - size}));
        }
        return what == 0 ? w.owed() : lost(losers);
    }

    int keep(int k) {
        if (!in(k, 0, 1)) return BAD;
        int was = images[k] == null ? 0 : 1;
        images[k] = world.copy();
        return was;
    }
    int back(int k) {
        if (!in(k, 0, 1)) return BAD;
        if (images[k] == null) return STATE;
        world = images[k].copy();
        return world.week;
    }
    int sheet(int k, int lane, int n) {
        if (!in(k, 0, 3) || !in(lane, 0, 2) || n > 40) return BAD;
        try {
            sheets[k] = lane == 0 ? (Object) new byte[n] : lane == 1 ? (Object) new short[n] : new int[n];
            return 1;
        } catch (NegativeArraySizeException e) {
            return -14;
        }
    }
    int lay(int k, int i, int v) {
        if (!in(k, 0, 3)) return BAD;
        try {
            if (sheets[k] == null) throw new NullPointerException();
            if (sheets[k] instanceof byte[]) ((byte[]) sheets[k])[i] = (byte) v;
            else if (sheets[k] instanceof short[]) ((short[]) sheets[k])[i] = (short) v;
            else ((int[]) sheets[k])[i] = v;
            return 1;
        } catch (NullPointerException e) {
            return -11;
        } catch (ArrayIndexOutOfBoundsException e) {
            return -12;
        }
    }
    int cell(int k, int lane, int i) {
        return lane == 0 ? ((byte[]) sheets[k])[i] : lane == 1 ? ((short[]) sheets[k])[i] : ((int[]) sheets[k])[i];
    }
    int read(int k, int lane, int f, int n) {
        if (!in(k, 0, 3) || !in(lane, 0, 2) || !in(n, 0, 20)) return BAD;
        List<int[]> before = new ArrayList<>(world.fixtures);
        int i = 0;
        try {
            for (; i < n; i++) {
                int a = cell(k, lane, f + 2 * i), b = cell(k, lane, f + 2 * i + 1);
                if (book(a, b) < 0) {
                    world.fixtures = before;
                    return -20 - i;
                }
            }
            torn = 0;
        } catch (NullPointerException e) {
            torn = 1;
        } catch (ArrayIndexOutOfBoundsException e) {
            torn = 2;
        } catch (ClassCastException e) {
            torn = 3;
        }
        return i;
    }
    int torn() { return torn; }
    int count(int what) {
        int images = 0;
        for (World w : this.images) if (w != null) images++;
        int cells = sheets[0] == null ? NONE : java.lang.reflect.Array.getLength(sheets[0]);
        int strength = world.towns.stream().mapToInt(p -> p.strength).sum();
        int losses = world.towns.stream().mapToInt(p -> p.losses).sum();
        int[] all = {seen.size(), images, tape.length(), cells, strength, losses};
        return in(what, 0, 5) ? all[what] : BAD;
    }
}
