/** A league in which each town must lose one game a year; README.md says how to use it. */
public final class LoseLeague {
    public static final int BAD = -1, STATE = -2, FULL = -3, NONE = -4;

    private static final int MOST_TOWNS = 5;
    private static final int MOST_FIXTURES = 10;
    private static final int KINDS = 4;
    private static final int PLAIN = 0, PROUD = 1, WISE = 2, CARELESS = 3;
    private static final int MOST_STRENGTH = 20;
    private static final int MOST_TALLY = 99;
    private static final int ABOVE_ALL_OWED = MOST_TOWNS * MOST_TALLY + 1;
    private static final int MOST_WEEKS_RUN = 30;
    private static final int WEEK_LIMIT = 1000;
    private static final int MOST_WEEKS_AHEAD = 60;
    private static final int MOST_ORDERED = 5;
    private static final int ORDER_PLACES = 10;
    private static final int RAIN_WEEKS = 8;
    private static final int RAIN_ODDS = 10;
    private static final int SEEN_WEEKS = 21;
    private static final int IMAGES = 2;
    private static final int SHEETS = 4;
    private static final int LANES = 3;
    private static final int MOST_CELLS = 40;
    private static final int MOST_PAIRS = 20;
    private static final int FAULT_NULL = 1, FAULT_INDEX = 2, FAULT_CAST = 3, FAULT_SIZE = 4;

    private final TextReader reader = new TextReader();
    private final Tape tape = reader.tape;
    private final League league = new League();
    private final League trial = new League();
    private final League[] images = new League[IMAGES];
    private final boolean[] kept = new boolean[IMAGES];
    private final Sheet[] sheets = new Sheet[SHEETS];
    private final Sights sights = new Sights();
    private final Best best = new Best();
    private final int[] row = new int[MOST_ORDERED];
    private final int[] outcomes = new int[(MOST_STRENGTH + 1) * SEEN_WEEKS];
    private final int[] tally = new int[MOST_TOWNS + 1];
    private int tornFault;

    public LoseLeague() {
        for (int k = 0; k < IMAGES; k++) {
            images[k] = new League();
        }
        for (int k = 0; k < SHEETS; k++) {
            sheets[k] = new Sheet();
        }
    }

    // ---- the text, what there is

    public int feed(int c) {
        if (!within(c, 127)) {
            return BAD;
        }
        return tape.append(c) ? tape.length : FULL;
    }

    public int end(int n) {
        if (!within(n, tape.length)) {
            return BAD;
        }
        int had = tape.length;
        tape.length = n;
        return had;
    }

    public int text() {
        int lines = reader.readAll(trial);
        tape.length = 0;
        if (reader.fault != 0) {
            return -10 - reader.place;
        }
        league.become(trial);
        sights.size = 0;
        for (int k = 0; k < IMAGES; k++) {
            kept[k] = false;
        }
        return lines;
    }

    public int fault() {
        return reader.fault;
    }

    public int rule(int what) {
        switch (what) {
            case 0: return league.towns;
            case 1: return league.fixtures;
            case 2: return league.week;
            case 3: return league.fixtureNow();
            case 4: return league.withLosses();
            case 5: return league.owed();
            default: return BAD;
        }
    }

    public int town(int t, int what) {
        if (!league.hasTown(t)) {
            return BAD;
        }
        switch (what) {
            case 0: return league.kinds[t];
            case 1: return league.strengths[t];
            case 2: return league.losses[t];
            case 3: return league.owes[t];
            case 4: return league.playsNow(t);
            default: return BAD;
        }
    }

    public int fixture(int i, int what) {
        if (!league.hasFixture(i) || !within(what, 1)) {
            return BAD;
        }
        return what == 0 ? league.firsts[i] : league.seconds[i];
    }

    public int game(int a, int b) {
        return league.hasPair(a, b) ? league.weaker(a, b) : BAD;
    }

    // ---- what is changed

    public int alter(int t, int what, int v) {
        if (!league.hasTown(t)) {
            return BAD;
        }
        switch (what) {
            case 0: return replace(league.kinds, t, v, KINDS - 1);
            case 1: return replace(league.strengths, t, v, MOST_STRENGTH);
            case 2: return replace(league.losses, t, v, MOST_TALLY);
            case 3: return replace(league.owes, t, v, MOST_TALLY);
            default: return BAD;
        }
    }

    private static int replace(int[] values, int t, int v, int most) {
        if (!within(v, most) || !within(t, values.length - 1)) {
            return BAD;
        }
        int was = values[t];
        values[t] = v;
        return was;
    }

    public int lend(int a, int b, int n) {
        if (!league.hasPair(a, b) || !within(n, MOST_STRENGTH)) {
            return BAD;
        }
        return league.moveStrength(a, b, n);
    }

    public int book(int a, int b) {
        return league.addFixture(a, b);
    }

    public int strike(int n) {
        if (!within(n, league.fixtures)) {
            return BAD;
        }
        int had = league.fixtures;
        league.fixtures = n;
        return had;
    }

    // ---- weeks

    public int weeks(int n) {
        if (!within(n, MOST_WEEKS_RUN)) {
            return BAD;
        }
        return league.week + n >= WEEK_LIMIT ? FULL : league.runWeeks(n);
    }

    public int runs(int n, int what) {
        if (!within(n, MOST_WEEKS_AHEAD) || !within(what, 3)) {
            return BAD;
        }
        trial.become(league);
        int lost = trial.runWeeks(n);
        switch (what) {
            case 0: return lost;
            case 1: return trial.fixtures == 0 ? 0 : n - lost;
            case 2: return trial.owed();
            default: return trial.withLosses();
        }
    }

    public int ahead(int t, int n, int what) {
        if (!league.hasTown(t) || !within(n, MOST_WEEKS_AHEAD) || !within(what, 2)) {
            return BAD;
        }
        trial.become(league);
        trial.runWeeks(n);
        switch (what) {
            case 0: return trial.strengths[t];
            case 1: return trial.losses[t];
            default: return trial.owes[t];
        }
    }

    public int loser(int n) {
        if (!within(n, MOST_WEEKS_AHEAD)) {
            return BAD;
        }
        trial.become(league);
        trial.runWeeks(n);
        return trial.runWeek(false);
    }

    public int loses(int t) {
        if (!league.hasTown(t)) {
            return BAD;
        }
        trial.become(league);
        return trial.firstLoss(t, MOST_WEEKS_AHEAD + 1);
    }

    // ---- what is best

    public int order(int what) {
        if (what != 0 && !within(what - ORDER_PLACES, MOST_ORDERED - 1)) {
            return BAD;
        }
        if (league.fixtures > MOST_ORDERED || league.fixtureNow() > 0) {
            return STATE;
        }
        findBestOrder();
        if (what == 0) {
            return best.least;
        }
        int place = what - ORDER_PLACES;
        if (place >= league.fixtures) {
            return NONE;
        }
        setRow(best.choice);
        return row[place];
    }

    private void findBestOrder() {
        best.start(ABOVE_ALL_OWED);
        int orders = factorial(league.fixtures);
        for (int i = 0; i < orders; i++) {
            setRow(i);
            trial.become(league);
            for (int place = 0; place < league.fixtures; place++) {
                trial.firsts[place] = league.firsts[row[place]];
                trial.seconds[place] = league.seconds[row[place]];
            }
            trial.runWeeks(league.fixtures);
            best.offer(i, trial.owed());
        }
    }

    /** Makes row the order of fixtures that has this number when all orders stand as numbers do. */
    private void setRow(int number) {
        int free = (1 << league.fixtures) - 1;
        int rest = number;
        for (int place = 0; place < league.fixtures; place++) {
            int later = factorial(league.fixtures - 1 - place);
            int chosen = nthBit(free, rest / later);
            row[place] = chosen;
            free &= ~(1 << chosen);
            rest %= later;
        }
    }

    private static int nthBit(int bits, int n) {
        int left = n;
        for (int i = 0; i < MOST_ORDERED; i++) {
            if ((bits >> i & 1) == 1) {
                if (left == 0) {
                    return i;
                }
                left--;
            }
        }
        return 0;
    }

    /** At least 1 for every n, so that it may divide. */
    private static int factorial(int n) {
        int product = 1;
        for (int i = 2; i <= n && i <= MOST_ORDERED; i++) {
            product *= i;
        }
        return product;
    }

    public int loan(int n, int what) {
        if (!within(n, MOST_WEEKS_AHEAD) || !within(what, 1)) {
            return BAD;
        }
        best.start(owedAsItIs(n));
        for (int a = 0; a < league.towns; a++) {
            for (int b = 0; b < league.towns; b++) {
                trial.become(league);
                if (a != b && trial.moveStrength(a, b, 1) >= 0) {
                    trial.runWeeks(n);
                    best.offer(10 * a + b, trial.owed());
                }
            }
        }
        return best.answer(what);
    }

    public int swap(int n, int what) {
        if (!within(n, MOST_WEEKS_AHEAD) || !within(what, 1)) {
            return BAD;
        }
        best.start(owedAsItIs(n));
        for (int i = 0; i < league.fixtures; i++) {
            for (int j = i + 1; j < league.fixtures; j++) {
                trial.become(league);
                trial.swapFixtures(i, j);
                trial.runWeeks(n);
                best.offer(10 * i + j, trial.owed());
            }
        }
        return best.answer(what);
    }

    public int skip(int n, int what) {
        if (!within(n, MOST_WEEKS_AHEAD) || !within(what, 1)) {
            return BAD;
        }
        best.start(owedAsItIs(n));
        for (int i = 0; i < league.fixtures; i++) {
            trial.become(league);
            for (int week = 0; week < n; week++) {
                trial.runWeek(trial.fixtureNow() == i);
            }
            best.offer(i, trial.owed());
        }
        return best.answer(what);
    }

    private int owedAsItIs(int n) {
        trial.become(league);
        trial.runWeeks(n);
        return trial.owed();
    }

    public int most(int t, int n) {
        if (!league.hasTown(t) || !within(n, MOST_WEEKS_AHEAD)) {
            return BAD;
        }
        for (int strength = MOST_STRENGTH; strength >= 0; strength--) {
            tryStrength(t, strength);
            if (trial.firstLoss(t, n) != NONE) {
                return strength;
            }
        }
        return NONE;
    }

    public int kind(int t, int n, int what) {
        if (!league.hasTown(t) || !within(n, MOST_WEEKS_AHEAD) || !within(what, 1)) {
            return BAD;
        }
        best.start(ABOVE_ALL_OWED);
        for (int kind = 0; kind < KINDS; kind++) {
            tryKind(t, kind);
            trial.runWeeks(n);
            best.offer(kind, trial.owed());
        }
        return best.answer(what);
    }

    private void tryStrength(int t, int strength) {
        trial.become(league);
        trial.strengths[t] = strength;
    }

    private void tryKind(int t, int kind) {
        trial.become(league);
        trial.kinds[t] = kind;
    }

    // ---- rain

    public long luck(int v, int t, int n, int what) {
        if (!within(v, RAIN_ODDS) || !league.hasTown(t)
                || !within(n, RAIN_WEEKS) || !within(what, 1)) {
            return BAD;
        }
        long sum = 0;
        for (int rain = 0; rain < 1 << n; rain++) {
            if (losesInRain(t, n, rain)) {
                sum += weight(v, n, rain);
            }
        }
        return lowest(sum, power(RAIN_ODDS, n), what);
    }

    public long mean(int v, int n, int what) {
        if (!within(v, RAIN_ODDS) || !within(n, RAIN_WEEKS) || !within(what, 1)) {
            return BAD;
        }
        long sum = 0;
        for (int rain = 0; rain < 1 << n; rain++) {
            losesInRain(NONE, n, rain);
            sum += trial.owed() * weight(v, n, rain);
        }
        return lowest(sum, power(RAIN_ODDS, n), what);
    }

    /** Runs the trial through n weeks, those whose bits rain has being rained off: whether t loses. */
    private boolean losesInRain(int t, int n, int rain) {
        trial.become(league);
        boolean lost = false;
        for (int week = 0; week < n; week++) {
            int loser = trial.runWeek((rain >> week & 1) == 1);
            if (loser >= 0 && loser == t) {
                lost = true;
            }
        }
        return lost;
    }

    private static long weight(int v, int n, int rain) {
        int wet = Integer.bitCount(rain);
        return power(v, wet) * power(RAIN_ODDS - v, n - wet);
    }

    private static long power(int base, int n) {
        long product = 1;
        for (int i = 0; i < n; i++) {
            product *= base;
        }
        return product;
    }

    private static long lowest(long numerator, long denominator, int what) {
        long divisor = commonDivisor(numerator, denominator);
        return (what == 0 ? numerator : denominator) / divisor;
    }

    /** Above 0, whatever a and b are; Euclid's steps for two longs stay below a hundred. */
    private static long commonDivisor(long a, long b) {
        long greater = a;
        long lesser = b;
        for (int step = 0; step < 100 && lesser != 0; step++) {
            long rest = greater % lesser;
            greater = lesser;
            lesser = rest;
        }
        return Math.max(1, greater);
    }

    // ---- what it was

    public int see(int n, int t) {
        if (!within(n, SEEN_WEEKS - 1) || t != Sights.NOBODY && !league.hasTown(t)) {
            return BAD;
        }
        return sights.add(n, t) ? sights.size : FULL;
    }

    public int forget(int n) {
        if (!within(n, sights.size)) {
            return BAD;
        }
        int had = sights.size;
        sights.size = n;
        return had;
    }

    public int kinds(int t) {
        if (!league.hasTown(t)) {
            return BAD;
        }
        int bits = 0;
        for (int kind = 0; kind < KINDS; kind++) {
            tryKind(t, kind);
            if (sights.fit(trial)) {
                bits |= 1 << kind;
            }
        }
        return bits;
    }

    public int strengths(int t) {
        return league.hasTown(t) ? strengthsAsSeen(t) : BAD;
    }

    private int strengthsAsSeen(int t) {
        int bits = 0;
        for (int strength = 0; strength <= MOST_STRENGTH; strength++) {
            tryStrength(t, strength);
            if (sights.fit(trial)) {
                bits |= 1 << strength;
            }
        }
        return bits;
    }

    public int ask(int t, int what) {
        if (!league.hasTown(t) || !within(what, 1)) {
            return BAD;
        }
        int bits = strengthsAsSeen(t);
        noteOutcomes(t);
        best.start(Integer.bitCount(bits));
        for (int week = 0; week < SEEN_WEEKS; week++) {
            best.offer(week, leftAtWorst(bits, week));
        }
        return best.answer(what);
    }

    private void noteOutcomes(int t) {
        for (int strength = 0; strength <= MOST_STRENGTH; strength++) {
            tryStrength(t, strength);
            for (int week = 0; week < SEEN_WEEKS; week++) {
                outcomes[strength * SEEN_WEEKS + week] = trial.runWeek(false);
            }
        }
    }

    private int leftAtWorst(int bits, int week) {
        for (int i = 0; i <= MOST_TOWNS; i++) {
            tally[i] = 0;
        }
        int worst = 0;
        for (int strength = 0; strength <= MOST_STRENGTH; strength++) {
            if ((bits >> strength & 1) == 1) {
                int loser = outcomes[strength * SEEN_WEEKS + week];
                int group = within(loser, MOST_TOWNS - 1) ? loser : MOST_TOWNS;
                tally[group]++;
                worst = Math.max(worst, tally[group]);
            }
        }
        return worst;
    }

    // ---- by a seed

    public int drift(int seed, int n, int what) {
        if (n < 1 || n > MOST_WEEKS_AHEAD || !within(what, 1)) {
            return BAD;
        }
        int towns = league.towns;
        if (towns < 2) {
            return STATE;
        }
        trial.become(league);
        int state = seed;
        int lost = 0;
        for (int week = 0; week < n; week++) {
            state = state * 1103515245 + 12345;
            int got = state >>> 16 & 0x7fff;
            int a = got % towns;
            int b = (a + 1 + got / 8 % (towns - 1)) % towns;
            if (trial.runWeekOf(a, b) >= 0) {
                lost++;
            }
        }
        return what == 0 ? trial.owed() : lost;
    }

    // ---- images, sheets

    public int keep(int k) {
        if (!within(k, IMAGES - 1)) {
            return BAD;
        }
        boolean was = kept[k];
        images[k].become(league);
        kept[k] = true;
        return was ? 1 : 0;
    }

    public int back(int k) {
        if (!within(k, IMAGES - 1)) {
            return BAD;
        }
        if (!kept[k]) {
            return STATE;
        }
        league.become(images[k]);
        return league.week;
    }

    public int sheet(int k, int lane, int n) {
        if (!within(k, SHEETS - 1) || !within(lane, LANES - 1) || n > MOST_CELLS) {
            return BAD;
        }
        if (n < 0) {
            return -10 - FAULT_SIZE;
        }
        sheets[k].renew(lane, n);
        return 1;
    }

    public int lay(int k, int i, int v) {
        if (!within(k, SHEETS - 1)) {
            return BAD;
        }
        Sheet sheet = sheets[k];
        if (!sheet.isThere()) {
            return -10 - FAULT_NULL;
        }
        if (!sheet.hasCell(i)) {
            return -10 - FAULT_INDEX;
        }
        sheet.put(i, v);
        return 1;
    }

    public int read(int k, int lane, int f, int n) {
        if (!within(k, SHEETS - 1) || !within(lane, LANES - 1) || !within(n, MOST_PAIRS)) {
            return BAD;
        }
        int had = league.fixtures;
        for (int i = 0; i < n; i++) {
            // f is a cell once the first pair was whole, so that this does not wrap around
            int at = f + 2 * i;
            int fault = sheets[k].pairFault(lane, at);
            if (fault != 0) {
                tornFault = fault;
                return i;
            }
            if (league.addFixture(sheets[k].cells[at], sheets[k].cells[at + 1]) < 0) {
                league.fixtures = had;
                return -20 - i;
            }
        }
        tornFault = 0;
        return n;
    }

    public int torn() {
        return tornFault;
    }

    public int count(int what) {
        switch (what) {
            case 0: return sights.size;
            case 1: return (kept[0] ? 1 : 0) + (kept[1] ? 1 : 0);
            case 2: return tape.length;
            case 3: return sheets[0].isThere() ? sheets[0].size : NONE;
            case 4: return league.sumOverTowns(league.strengths);
            case 5: return league.sumOverTowns(league.losses);
            default: return BAD;
        }
    }

    private static boolean within(int value, int most) {
        return value >= 0 && value <= most;
    }

    /** Towns, fixtures and the week; its rows are made once, so that trials cost no new ones. */
    private static final class League {
        final int[] kinds = new int[MOST_TOWNS];
        final int[] strengths = new int[MOST_TOWNS];
        final int[] losses = new int[MOST_TOWNS];
        final int[] owes = new int[MOST_TOWNS];
        final int[] firsts = new int[MOST_FIXTURES];
        final int[] seconds = new int[MOST_FIXTURES];
        int towns;
        int fixtures;
        int week;

        void clear() {
            towns = 0;
            fixtures = 0;
            week = 0;
        }

        void become(League other) {
            towns = other.towns;
            fixtures = other.fixtures;
            week = other.week;
            for (int t = 0; t < towns; t++) {
                kinds[t] = other.kinds[t];
                strengths[t] = other.strengths[t];
                losses[t] = other.losses[t];
                owes[t] = other.owes[t];
            }
            for (int i = 0; i < fixtures; i++) {
                firsts[i] = other.firsts[i];
                seconds[i] = other.seconds[i];
            }
        }

        boolean hasTown(int t) {
            return t >= 0 && t < towns;
        }

        boolean hasFixture(int i) {
            return i >= 0 && i < fixtures;
        }

        boolean hasPair(int a, int b) {
            return hasTown(a) && hasTown(b) && a != b;
        }

        boolean isFullOfTowns() {
            return towns >= MOST_TOWNS;
        }

        boolean isFullOfFixtures() {
            return fixtures >= MOST_FIXTURES;
        }

        void addTown(int kind, int strength) {
            if (isFullOfTowns()) {
                return;
            }
            kinds[towns] = kind;
            strengths[towns] = strength;
            losses[towns] = 0;
            owes[towns] = 0;
            towns++;
        }

        int addFixture(int a, int b) {
            if (!hasPair(a, b)) {
                return BAD;
            }
            return addFixtureUnseen(a, b);
        }

        /** A text may tell a game ahead of its towns, so these are not looked at here. */
        int addFixtureUnseen(int a, int b) {
            if (isFullOfFixtures()) {
                return FULL;
            }
            firsts[fixtures] = a;
            seconds[fixtures] = b;
            fixtures++;
            return fixtures;
        }

        boolean lacksTown() {
            for (int i = 0; i < fixtures; i++) {
                if (!hasPair(firsts[i], seconds[i])) {
                    return true;
                }
            }
            return false;
        }

        void swapFixtures(int i, int j) {
            int first = firsts[i];
            int second = seconds[i];
            firsts[i] = firsts[j];
            seconds[i] = seconds[j];
            firsts[j] = first;
            seconds[j] = second;
        }

        int moveStrength(int a, int b, int n) {
            if (strengths[a] < n) {
                return STATE;
            }
            if (strengths[b] + n > MOST_STRENGTH) {
                return FULL;
            }
            strengths[a] -= n;
            strengths[b] += n;
            return strengths[a];
        }

        int playsNow(int t) {
            int plain = strengths[t];
            int wise = losses[t] == 0 ? plain / 2 : plain;
            switch (kinds[t]) {
                case PROUD: return plain + 3;
                case WISE: return wise;
                case CARELESS: return Math.max(0, wise - 2);
                default: return plain;
            }
        }

        private int trainsNow(int t) {
            switch (kinds[t]) {
                case PROUD: return 2;
                case CARELESS: return 0;
                default: return 1;
            }
        }

        int weaker(int a, int b) {
            int difference = playsNow(a) - playsNow(b);
            if (difference == 0) {
                return NONE;
            }
            return difference < 0 ? a : b;
        }

        private int play(int a, int b) {
            int loser = weaker(a, b);
            if (loser >= 0) {
                int winner = loser == a ? b : a;
                losses[loser] = Math.min(MOST_TALLY, losses[loser] + 1);
                strengths[loser] = Math.min(MOST_STRENGTH, strengths[loser] + trainsNow(loser));
                strengths[winner] = Math.max(0, strengths[winner] - 1);
            }
            return loser;
        }

        int fixtureNow() {
            return fixtures > 0 ? week % fixtures : NONE;
        }

        /** Who loses in it, or NONE; a week that is rained off passes all the same. */
        int runWeek(boolean rainedOff) {
            int i = fixtureNow();
            int loser = i < 0 || rainedOff ? NONE : play(firsts[i], seconds[i]);
            passWeek();
            return loser;
        }

        int runWeekOf(int a, int b) {
            int loser = play(a, b);
            passWeek();
            return loser;
        }

        private void passWeek() {
            if (fixtures > 0 && fixtureNow() == fixtures - 1) {
                closeYear();
            }
            week++;
        }

        private void closeYear() {
            for (int t = 0; t < towns; t++) {
                if (losses[t] == 0) {
                    owes[t] = Math.min(MOST_TALLY, owes[t] + 1);
                }
                losses[t] = 0;
            }
        }

        int runWeeks(int n) {
            int lost = 0;
            for (int i = 0; i < n; i++) {
                if (runWeek(false) >= 0) {
                    lost++;
                }
            }
            return lost;
        }

        int firstLoss(int t, int n) {
            for (int i = 0; i < n; i++) {
                if (runWeek(false) == t) {
                    return i;
                }
            }
            return NONE;
        }

        int owed() {
            return sumOverTowns(owes);
        }

        int withLosses() {
            int bits = 0;
            for (int t = 0; t < towns; t++) {
                if (losses[t] > 0) {
                    bits |= 1 << t;
                }
            }
            return bits;
        }

        int sumOverTowns(int[] values) {
            int sum = 0;
            for (int t = 0; t < towns && t < values.length; t++) {
                sum += values[t];
            }
            return sum;
        }
    }

    /** The bytes that have been fed. */
    private static final class Tape {
        final byte[] bytes = new byte[160];
        int length;

        boolean append(int c) {
            if (length >= bytes.length) {
                return false;
            }
            bytes[length] = (byte) c;
            length++;
            return true;
        }

        /** 0, which is no token, where the tape has ended. */
        int byteAt(int place) {
            return place >= 0 && place < length ? bytes[place] : 0;
        }
    }

    /** Reads the tape token by token; a fault is met when the token that has it is read. */
    private static final class TextReader {
        static final int END = 0, NAME = 1, NUMBER = 2, SIGN = 3;
        static final int NO_TOKEN = 1, OUT_OF_PLACE = 2, OUT_OF_BOUNDS = 3, TOO_MANY = 5, NO_TOWN = 6;
        static final int GAME = 4, NO_WORD = -1;
        static final int MOST_LINES = MOST_TOWNS + MOST_FIXTURES;

        final Tape tape = new Tape();
        int position;
        int token;
        int start;
        int value;
        int fault;
        int place;

        /** How many lines the draft was told by; fault and place say why it was not. */
        int readAll(League draft) {
            draft.clear();
            position = 0;
            fault = 0;
            place = 0;
            for (int lines = 0; lines <= MOST_LINES; lines++) {
                if (!readToken()) {
                    return lines;
                }
                if (token == END) {
                    if (draft.lacksTown()) {
                        refuse(NO_TOWN);
                    }
                    return lines;
                }
                int word = wordRead();
                if (word == NO_WORD) {
                    refuse(OUT_OF_PLACE);
                    return lines;
                }
                if (word == GAME ? !readGame(draft) : !readTown(draft, word)) {
                    return lines;
                }
            }
            return MOST_LINES;
        }

        private boolean readTown(League draft, int kind) {
            if (draft.isFullOfTowns()) {
                return refuse(TOO_MANY);
            }
            if (!readNumber(MOST_STRENGTH)) {
                return false;
            }
            int strength = value;
            if (!readSign()) {
                return false;
            }
            draft.addTown(kind, strength);
            return true;
        }

        private boolean readGame(League draft) {
            if (draft.isFullOfFixtures()) {
                return refuse(TOO_MANY);
            }
            if (!readNumber(MOST_TOWNS - 1)) {
                return false;
            }
            int first = value;
            if (!readNumber(MOST_TOWNS - 1)) {
                return false;
            }
            int second = value;
            if (first == second) {
                return refuse(OUT_OF_BOUNDS);
            }
            if (!readSign()) {
                return false;
            }
            draft.addFixtureUnseen(first, second);
            return true;
        }

        private boolean readNumber(int most) {
            if (!readToken()) {
                return false;
            }
            if (token != NUMBER) {
                return refuse(OUT_OF_PLACE);
            }
            return value <= most || refuse(OUT_OF_BOUNDS);
        }

        private boolean readSign() {
            if (!readToken()) {
                return false;
            }
            return token == SIGN || refuse(OUT_OF_PLACE);
        }

        private boolean readToken() {
            while (position < tape.length && tape.byteAt(position) == ' ') {
                position++;
            }
            start = position;
            if (position >= tape.length) {
                token = END;
                return true;
            }
            int c = tape.byteAt(position);
            if (isLetter(c)) {
                return takeName();
            }
            if (isFigure(c)) {
                return takeNumber();
            }
            if (c != ';') {
                return refuse(NO_TOKEN);
            }
            token = SIGN;
            position++;
            return true;
        }

        private boolean takeName() {
            token = NAME;
            while (position < tape.length && isLetter(tape.byteAt(position))) {
                position++;
            }
            return true;
        }

        private boolean takeNumber() {
            token = NUMBER;
            value = 0;
            while (position < tape.length && isFigure(tape.byteAt(position))) {
                value = value * 10 + tape.byteAt(position) - '0';
                position++;
            }
            return position - start <= 2 || refuse(NO_TOKEN);
        }

        private static boolean isLetter(int c) {
            return c >= 'a' && c <= 'z';
        }

        private static boolean isFigure(int c) {
            return c >= '0' && c <= '9';
        }

        /** Which word may begin a line here; a sign or a number spells none. */
        private int wordRead() {
            if (spells("plain")) {
                return PLAIN;
            }
            if (spells("proud")) {
                return PROUD;
            }
            if (spells("wise")) {
                return WISE;
            }
            if (spells("careless")) {
                return CARELESS;
            }
            return spells("game") ? GAME : NO_WORD;
        }

        private boolean spells(String word) {
            if (position - start != word.length()) {
                return false;
            }
            for (int i = 0; i < word.length(); i++) {
                if (tape.byteAt(start + i) != word.charAt(i)) {
                    return false;
                }
            }
            return true;
        }

        /** The fault lies where the token read latest begins; so the answer is always false. */
        private boolean refuse(int why) {
            fault = why;
            place = start;
            return false;
        }
    }

    /** What was seen: in which week from now on who loses. */
    private static final class Sights {
        static final int NOBODY = 9;
        static final int MOST = 6;

        final int[] weeks = new int[MOST];
        final int[] losers = new int[MOST];
        int size;

        boolean add(int week, int loser) {
            if (size >= MOST) {
                return false;
            }
            weeks[size] = week;
            losers[size] = loser;
            size++;
            return true;
        }

        /** Runs the trial on, to tell whether all goes as it was seen. */
        boolean fit(League trial) {
            for (int week = 0; week < SEEN_WEEKS; week++) {
                int loser = trial.runWeek(false);
                if (!fitsWeek(week, loser < 0 ? NOBODY : loser)) {
                    return false;
                }
            }
            return true;
        }

        private boolean fitsWeek(int week, int loser) {
            for (int i = 0; i < size; i++) {
                if (weeks[i] == week && losers[i] != loser) {
                    return false;
                }
            }
            return true;
        }
    }

    /** The first of the choices offered that leaves least, less than it was started with. */
    private static final class Best {
        int choice;
        int least;

        void start(int bound) {
            choice = NONE;
            least = bound;
        }

        void offer(int newChoice, int left) {
            if (left < least) {
                choice = newChoice;
                least = left;
            }
        }

        int answer(int what) {
            if (choice == NONE) {
                return NONE;
            }
            return what == 0 ? choice : least;
        }
    }

    /** A row of cells of one lane, or nothing; its cells hold what the lane lets through. */
    private static final class Sheet {
        static final int BYTES = 0, SHORTS = 1;
        static final int NOTHING = -1;

        final int[] cells = new int[MOST_CELLS];
        int lane;
        int size = NOTHING;

        boolean isThere() {
            return size != NOTHING;
        }

        boolean hasCell(int i) {
            return i >= 0 && i < size;
        }

        void renew(int newLane, int n) {
            lane = newLane;
            size = n;
            for (int i = 0; i < n; i++) {
                cells[i] = 0;
            }
        }

        void put(int i, int v) {
            switch (lane) {
                case BYTES: cells[i] = (byte) v; break;
                case SHORTS: cells[i] = (short) v; break;
                default: cells[i] = v; break;
            }
        }

        /** What the machine would find on reading two cells as of a lane. */
        int pairFault(int asLane, int at) {
            if (!isThere()) {
                return FAULT_NULL;
            }
            if (asLane != lane) {
                return FAULT_CAST;
            }
            if (!hasCell(at) || !hasCell(at + 1)) {
                return FAULT_INDEX;
            }
            return 0;
        }
    }
}
