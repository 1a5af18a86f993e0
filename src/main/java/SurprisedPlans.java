/**
 * A chooser of plans that remembers surprises. What every call answers is told by the document of the
 * project, promise by promise.
 *
 * <p>Everything that the object will ever need is made by the constructor: its calls make no objects.
 */
public final class SurprisedPlans {
    /** There is no such result. */
    public static final int NONE = -1;

    private static final int TABLES = 7;
    private static final int PAIRS = 21;
    private static final int SETS = 128;
    private static final int SETTINGS = 3;
    private static final int SUMS = 4;
    private static final int SLOTS = 2;
    private static final int REMEMBERED = 14;
    private static final int TEXT_LENGTH = 100;

    /** How many surprises are told, and how many numbers each of them has. */
    private static final int TOLD = 10;
    private static final int TOLD_NUMBERS = 4;

    private static final int MOST_SIZE = 9999;
    private static final int MOST_SHARE = 1000;
    private static final int MOST_WEEKS = 20;
    private static final int MOST_COMMANDS = 3;
    private static final int MOST_TURNS = 40;
    private static final int MOST_LEARNING_RUNS = 30;
    private static final long MOST_ROWS = 1000000000000L;
    private static final long MOST_STEP_COST = 1000000000000000L;

    private static final int GUESSED = 0;
    private static final int BELIEVED = 1;
    private static final int TRUE = 2;

    private static final int LOOPS = 0;
    private static final int LIST = 1;

    private static final int THRESHOLD = 0;
    private static final int TRUST = 1;
    private static final int HORIZON = 2;

    private static final int[] FIRST_SETTING = {50, 10, 4};
    private static final int[] LEAST_SETTING = {1, 1, 0};
    private static final int[] MOST_SETTING = {1000, 10, 20};

    private static final int COMMAND_NUMBERS = 1000000;

    private final Text text;
    private final EntryReader entryReader;
    private final PlanReader planReader;
    private final World world;
    private final World copy;
    private final History history;
    private final Slots slots;
    private final Planner chosen;
    private final Planner other;

    /** Creates a world without tables. */
    public SurprisedPlans() {
        text = new Text();
        entryReader = new EntryReader();
        planReader = new PlanReader();
        world = new World();
        copy = new World();
        history = new History();
        slots = new Slots();
        chosen = new Planner();
        other = new Planner();
    }

    // ---- text

    public int append(int c) throws IllegalArgumentException, IllegalStateException {
        needRange(c, 0, 255);
        if (text.isFull()) {
            throw new IllegalStateException("the text is full");
        }
        return text.put((char) c);
    }

    public int clearText() {
        return text.empty();
    }

    public int errorPosition(boolean plan) {
        return plan ? text.firstErrorFor(planReader) : text.firstErrorFor(entryReader);
    }

    public int load() throws IllegalStateException {
        if (text.firstErrorFor(entryReader) != NONE) {
            throw new IllegalStateException("the text is not a world");
        }
        world.makeNew();
        history.forgetAll();
        slots.emptyAll();
        return readEntries();
    }

    // ---- what there is

    public int about(int what) throws IllegalArgumentException {
        needRange(what, 0, 5);
        return world.numberOf(what);
    }

    public long sum(int what) throws IllegalArgumentException {
        needRange(what, 0, SUMS - 1);
        return world.sumOf(what);
    }

    public int size(int t) throws IndexOutOfBoundsException {
        needTable(t);
        return world.sizeOf(t);
    }

    public int pair(int a, int b, int what) throws IndexOutOfBoundsException, IllegalArgumentException {
        needTwoTables(a, b);
        needRange(what, 0, 4);
        return world.pairNumberOf(pairIndex(a, b), what);
    }

    public int surprise(int k, int what) throws IllegalArgumentException {
        needRange(k, 0, TOLD - 1);
        needRange(what, 0, TOLD_NUMBERS - 1);
        return world.surpriseNumberOf(k, what);
    }

    public int setting(int what) throws IllegalArgumentException {
        needRange(what, 0, SETTINGS - 1);
        return world.settingOf(what);
    }

    // ---- actions

    public int add(int size) throws IllegalArgumentException, IllegalStateException {
        needRange(size, 1, MOST_SIZE);
        if (world.isFull()) {
            throw new IllegalStateException("there are seven tables");
        }
        history.remember(world);
        return world.addTable(size);
    }

    public int resize(int t, int size) throws IndexOutOfBoundsException, IllegalArgumentException {
        needTable(t);
        needRange(size, 1, MOST_SIZE);
        history.remember(world);
        return world.changeSize(t, size);
    }

    public int link(int a, int b, int guess, int share)
            throws IndexOutOfBoundsException, IllegalArgumentException {
        needTwoTables(a, b);
        needRange(guess, 1, MOST_SHARE);
        needRange(share, 1, MOST_SHARE);
        history.remember(world);
        return world.linkPair(pairIndex(a, b), guess, share);
    }

    public int drift(int a, int b, int share)
            throws IndexOutOfBoundsException, IllegalArgumentException, IllegalStateException {
        needTwoTables(a, b);
        needRange(share, 1, MOST_SHARE);
        if (!world.isLinked(pairIndex(a, b))) {
            throw new IllegalStateException("the pair is not linked");
        }
        history.remember(world);
        return world.changeShare(pairIndex(a, b), share);
    }

    public int run(int set) throws IndexOutOfBoundsException, IllegalArgumentException {
        needTables(set);
        needSomeTable(set);
        history.remember(world);
        return runIn(world, set);
    }

    public int weeks(int n) throws IllegalArgumentException {
        needRange(n, 1, MOST_WEEKS);
        history.remember(world);
        return world.passWeeks(n);
    }

    public int set(int what, int v) throws IllegalArgumentException {
        if (!settingTakes(what, v)) {
            throw new IllegalArgumentException("no such setting, or not a value of it");
        }
        history.remember(world);
        return world.changeSetting(what, v);
    }

    public int undo() throws IllegalStateException {
        if (history.isEmpty()) {
            throw new IllegalStateException("no state is remembered");
        }
        return history.takeBack(world);
    }

    // ---- what is chosen, and what would be

    public long rows(int set, int kind) throws IndexOutOfBoundsException, IllegalArgumentException {
        needTables(set);
        needKind(kind);
        chosen.weigh(world, set, kind);
        return chosen.rowsOf(set);
    }

    public int order(int set, int kind, int k) throws IndexOutOfBoundsException, IllegalArgumentException {
        needTables(set);
        needKind(kind);
        needAtLeast(k, 0);
        chosen.choose(world, set, kind);
        return chosen.tableAt(k);
    }

    public int way(int set, int k) throws IndexOutOfBoundsException, IllegalArgumentException {
        needTables(set);
        needAtLeast(k, 1);
        chosen.choose(world, set, BELIEVED);
        return chosen.wayAt(k);
    }

    public long cost(int set, int what) throws IndexOutOfBoundsException, IllegalArgumentException {
        needTables(set);
        needRange(what, 0, 2);
        if (what == 2) {
            return regretIn(world, set);
        }
        chosen.choose(world, set, BELIEVED);
        if (what == 0) {
            return chosen.leastCost();
        }
        other.weigh(world, set, TRUE);
        return other.costAsPlannedBy(chosen);
    }

    public long costOfText(int kind) throws IllegalArgumentException, IllegalStateException {
        needKind(kind);
        if (text.firstErrorFor(planReader) != NONE || !world.hasTables(planReader.tables())) {
            throw new IllegalStateException("the text is not a plan of the tables that there are");
        }
        chosen.weigh(world, planReader.tables(), kind);
        return chosen.costOfRead(planReader);
    }

    public int matters(int a, int b, int set) throws IndexOutOfBoundsException, IllegalArgumentException {
        needTable(a);
        needTable(b);
        needTables(set);
        if (a == b) {
            throw new IllegalArgumentException("the same table twice");
        }
        int pair = pairIndex(a, b);
        if (!world.hasMemory(pair)) {
            return 0;
        }
        copy.takeFrom(world);
        copy.forget(pair);
        chosen.choose(world, set, BELIEVED);
        other.choose(copy, set, BELIEVED);
        return chosen.hasOrderOf(other) ? 0 : 1;
    }

    public int worst() {
        return world.mostWronglyBelieved();
    }

    public int learnsIn(int set) throws IndexOutOfBoundsException, IllegalArgumentException {
        needTables(set);
        needSomeTable(set);
        copy.takeFrom(world);
        other.choose(copy, set, TRUE);
        for (int runs = 0; runs <= MOST_LEARNING_RUNS; runs++) {
            chosen.choose(copy, set, BELIEVED);
            if (other.costAsPlannedBy(chosen) == other.leastCost()) {
                return runs;
            }
            // A run without a surprise leaves all beliefs as they are, and so does every later one.
            if (copy.learn(set) == 0) {
                return NONE;
            }
        }
        return NONE;
    }

    // ---- scripts, simulations

    public int runScript(int n, long script) throws IllegalArgumentException {
        needRange(n, 1, MOST_COMMANDS);
        long behind = 1;
        for (int i = 0; i < n; i++) {
            behind *= COMMAND_NUMBERS;
        }
        if (script < 0 || script >= behind) {
            throw new IllegalArgumentException("the script does not have so many commands");
        }
        copy.takeFrom(world);
        for (int i = 0; i < n; i++) {
            behind /= COMMAND_NUMBERS;
            if (behind < 1 || !succeeds((int) (script / behind % COMMAND_NUMBERS))) {
                return i;
            }
        }
        return NONE;
    }

    public int simulate(long seed, int m) throws IllegalArgumentException {
        needRange(m, 1, MOST_TURNS);
        copy.takeFrom(world);
        long x = seed;
        for (int turn = 0; turn < m; turn++) {
            x = x * 6364136223846793005L + 1442695040888963407L;
            takeTurn((int) (x >>> 33));
        }
        return 100 * (copy.surprises - world.surprises) + copy.memoryCount();
    }

    // ---- save slots

    public int save(int slot) throws IndexOutOfBoundsException {
        needSlot(slot);
        slots.put(slot, world);
        return world.weeks;
    }

    public int restore(int slot) throws IndexOutOfBoundsException, IllegalStateException {
        needSlot(slot);
        if (!slots.isFilled(slot)) {
            throw new IllegalStateException("nothing has been saved in the slot");
        }
        slots.takeOut(slot, world);
        history.forgetAll();
        return world.weeks;
    }

    // ---- what the calls are made of

    /** Does the entries of a text that is a world; answers how many are left out. */
    private int readEntries() {
        int leftOut = 0;
        entryReader.begin();
        for (int i = 0; i <= text.length; i++) {
            int c = i < text.length ? text.signAt(i) : ';';
            if (c == ';' && !doEntry()) {
                leftOut++;
            }
            entryReader.takes(c);
        }
        return leftOut;
    }

    private boolean doEntry() {
        if (entryReader.isTable()) {
            if (world.isFull()) {
                return false;
            }
            world.addTable(entryReader.number);
            return true;
        }
        if (!world.hasTwoTables(entryReader.first, entryReader.second)) {
            return false;
        }
        int pair = pairIndex(entryReader.first, entryReader.second);
        world.linkPair(pair, entryReader.guess, entryReader.number);
        return true;
    }

    private int runIn(World in, int set) {
        long regret = regretIn(in, set);
        in.noteRun(other.leastCost() + regret, regret);
        return in.learn(set);
    }

    /** Leaves the chosen plan in chosen, and the one that costs least in truth in other. */
    private long regretIn(World in, int set) {
        chosen.choose(in, set, BELIEVED);
        other.choose(in, set, TRUE);
        return other.costAsPlannedBy(chosen) - other.leastCost();
    }

    /**
     * Does a command, told by its six digits, on the copy. The calls that are told to answer 0 or more always do, and
     * are made for what they change.
     */
    private boolean succeeds(int command) {
        int d1 = command / 100000;
        int d2 = command / 10000 % 10;
        int d3 = command / 1000 % 10;
        int xyz = command % 1000;
        switch (d1) {
            case 1:
                return d2 == 0 && d3 == 0 && xyz != 0 && copy.hasTables(xyz) && runIn(copy, xyz) >= 0;
            case 2:
                return d2 == 0 && d3 == 0 && isIn(xyz, 1, MOST_WEEKS) && copy.passWeeks(xyz) >= 0;
            case 3:
                return scriptDrifts(d2, d3, xyz);
            case 4:
                return d3 == 0 && scriptSets(d2, xyz);
            case 5:
                return scriptLinks(d2, d3, xyz);
            case 6:
                return copy.hasTables(xyz) && chosenTableIs(d2, xyz, d3);
            case 7:
                return xyz < 100 && copy.hasTwoTables(d2, d3) && copy.remembersSince(pairIndex(d2, d3), xyz);
            case 8:
                return d2 == 0 && d3 == 0 && xyz < 100 && copy.surprises >= xyz;
            case 9:
                return d2 == 0 && d3 == 0 && copy.hasTables(xyz) && regretIn(copy, xyz) == 0;
            default:
                return false;
        }
    }

    private boolean scriptDrifts(int a, int b, int share) {
        if (!copy.hasTwoTables(a, b) || !isIn(share, 1, MOST_SHARE) || !copy.isLinked(pairIndex(a, b))) {
            return false;
        }
        copy.changeShare(pairIndex(a, b), share);
        return true;
    }

    private boolean scriptSets(int what, int v) {
        if (!settingTakes(what, v)) {
            return false;
        }
        copy.changeSetting(what, v);
        return true;
    }

    private boolean scriptLinks(int a, int b, int share) {
        if (!copy.hasTwoTables(a, b) || !isIn(share, 1, MOST_SHARE)) {
            return false;
        }
        copy.linkPair(pairIndex(a, b), share, share);
        return true;
    }

    private boolean chosenTableIs(int t, int set, int k) {
        chosen.choose(copy, set, BELIEVED);
        return chosen.tableAt(k) == t;
    }

    /** Takes a turn of a simulation, on the copy; what would throw an exception is left out. */
    private void takeTurn(int r) {
        int n = copy.tables;
        if (n < 1 || n > TABLES) {
            return;
        }
        int sets = (1 << n) - 1;
        switch (r % 8) {
            case 4:
                copy.passWeeks(1);
                break;
            case 5:
            case 6:
                scriptDrifts(r / 8 % n, r / 64 % n, 1 + r / 512 % 1000);
                break;
            case 7:
                scriptSets(THRESHOLD, 1 + r / 8 % 200);
                break;
            default:
                if (sets > 0) {
                    runIn(copy, 1 + r / 8 % sets);
                }
        }
    }

    // ---- what is asked of arguments

    private void needTable(int t) {
        if (!world.hasTable(t)) {
            throw new IndexOutOfBoundsException("no such table");
        }
    }

    private void needTables(int set) {
        if (!world.hasTables(set)) {
            throw new IndexOutOfBoundsException("a set with a table that there is not");
        }
    }

    private void needTwoTables(int a, int b) {
        needTable(a);
        needTable(b);
        if (a == b) {
            throw new IllegalArgumentException("the same table twice");
        }
    }

    private static void needSomeTable(int set) {
        if (set == 0) {
            throw new IllegalArgumentException("the empty set");
        }
    }

    private static void needKind(int kind) {
        needRange(kind, GUESSED, TRUE);
    }

    private static void needRange(int v, int least, int most) {
        if (!isIn(v, least, most)) {
            throw new IllegalArgumentException("an argument is out of its range");
        }
    }

    private static void needAtLeast(int v, int least) {
        if (v < least) {
            throw new IllegalArgumentException("an argument is too small");
        }
    }

    private static void needSlot(int slot) {
        if (!isIn(slot, 0, SLOTS - 1)) {
            throw new IndexOutOfBoundsException("no such save slot");
        }
    }

    private static boolean isIn(int v, int least, int most) {
        return v >= least && v <= most;
    }

    private static boolean settingTakes(int what, int v) {
        return isIn(what, 0, SETTINGS - 1) && isIn(v, LEAST_SETTING[what], MOST_SETTING[what]);
    }

    private static boolean holds(int set, int t) {
        return (set >> t & 1) == 1;
    }

    /**
     * The index of a pair in the rows of pairs, in whatever order it is told; NONE if it is none. The pairs of one
     * higher table stand behind one another, as rows of a set are reckoned by them in this order.
     */
    private static int pairIndex(int a, int b) {
        int low = Math.min(a, b);
        int high = Math.max(a, b);
        return low < 0 || high >= TABLES || low == high ? NONE : high * (high - 1) / 2 + low;
    }

    /** A state: everything that actions change. A linked pair is known by its guess, a memory by its share, above 0. */
    private static final class World {
        int tables;
        int weeks;
        int runs;
        int surprises;
        private final long[] sums = new long[SUMS];
        private final int[] settings = FIRST_SETTING.clone();
        private final int[] sizes = new int[TABLES];
        private final int[] guesses = new int[PAIRS];
        private final int[] shares = new int[PAIRS];
        private final int[] memories = new int[PAIRS];
        private final int[] ages = new int[PAIRS];
        private final int[] surprisesOf = new int[PAIRS];
        /** The numbers of the last surprises, each one in the place of the one that is TOLD before it. */
        private final int[] told = new int[TOLD * TOLD_NUMBERS];

        void makeNew() {
            tables = 0;
            weeks = 0;
            runs = 0;
            surprises = 0;
            for (int i = 0; i < SUMS; i++) {
                sums[i] = 0;
            }
            System.arraycopy(FIRST_SETTING, 0, settings, 0, SETTINGS);
            for (int pair = 0; pair < PAIRS; pair++) {
                guesses[pair] = 0;
                shares[pair] = 0;
                memories[pair] = 0;
                ages[pair] = 0;
                surprisesOf[pair] = 0;
            }
        }

        void takeFrom(World from) {
            tables = from.tables;
            weeks = from.weeks;
            runs = from.runs;
            surprises = from.surprises;
            System.arraycopy(from.sums, 0, sums, 0, SUMS);
            System.arraycopy(from.settings, 0, settings, 0, SETTINGS);
            System.arraycopy(from.sizes, 0, sizes, 0, TABLES);
            System.arraycopy(from.guesses, 0, guesses, 0, PAIRS);
            System.arraycopy(from.shares, 0, shares, 0, PAIRS);
            System.arraycopy(from.memories, 0, memories, 0, PAIRS);
            System.arraycopy(from.ages, 0, ages, 0, PAIRS);
            System.arraycopy(from.surprisesOf, 0, surprisesOf, 0, PAIRS);
            System.arraycopy(from.told, 0, told, 0, TOLD * TOLD_NUMBERS);
        }

        boolean hasTable(int t) {
            return t >= 0 && t < tables;
        }

        boolean hasTables(int set) {
            return set >= 0 && set >> tables == 0;
        }

        boolean hasTwoTables(int a, int b) {
            return hasTable(a) && hasTable(b) && a != b;
        }

        boolean isFull() {
            return tables >= TABLES;
        }

        boolean isLinked(int pair) {
            return isIn(pair, 0, PAIRS - 1) && guesses[pair] > 0;
        }

        boolean hasMemory(int pair) {
            return isIn(pair, 0, PAIRS - 1) && memories[pair] > 0;
        }

        boolean remembersSince(int pair, int age) {
            return hasMemory(pair) && ages[pair] <= age;
        }

        int numberOf(int what) {
            switch (what) {
                case 0:
                    return tables;
                case 1:
                    return linkCount();
                case 2:
                    return memoryCount();
                case 3:
                    return weeks;
                case 4:
                    return runs;
                default:
                    return surprises;
            }
        }

        private int linkCount() {
            int count = 0;
            for (int pair = 0; pair < PAIRS; pair++) {
                if (guesses[pair] > 0) {
                    count++;
                }
            }
            return count;
        }

        int memoryCount() {
            int count = 0;
            for (int pair = 0; pair < PAIRS; pair++) {
                if (memories[pair] > 0) {
                    count++;
                }
            }
            return count;
        }

        long sumOf(int what) {
            return isIn(what, 0, SUMS - 1) ? sums[what] : 0;
        }

        int settingOf(int what) {
            return isIn(what, 0, SETTINGS - 1) ? settings[what] : 0;
        }

        int sizeOf(int t) {
            return isIn(t, 0, TABLES - 1) ? sizes[t] : 0;
        }

        /** The share of a pair by one kind of shares; 0 if it is not linked. */
        int shareOf(int pair, int kind) {
            if (!isIn(pair, 0, PAIRS - 1)) {
                return 0;
            }
            if (kind == TRUE) {
                return shares[pair];
            }
            return kind == BELIEVED && memories[pair] > 0 ? memories[pair] : guesses[pair];
        }

        int pairNumberOf(int pair, int what) {
            if (!isLinked(pair)) {
                return NONE;
            }
            switch (what) {
                case 0:
                    return shareOf(pair, GUESSED);
                case 1:
                    return shareOf(pair, TRUE);
                case 2:
                    return shareOf(pair, BELIEVED);
                case 3:
                    return hasMemory(pair) ? ages[pair] : NONE;
                default:
                    return surprisesOf[pair];
            }
        }

        int surpriseNumberOf(int k, int what) {
            if (k < 0 || k >= TOLD || k >= surprises || !isIn(what, 0, TOLD_NUMBERS - 1)) {
                return NONE;
            }
            return told[(surprises - 1 - k) % TOLD * TOLD_NUMBERS + what];
        }

        int addTable(int rows) {
            if (isIn(tables, 0, TABLES - 1)) {
                sizes[tables] = rows;
                tables++;
            }
            return tables - 1;
        }

        int changeSize(int t, int rows) {
            int before = sizeOf(t);
            if (isIn(t, 0, TABLES - 1)) {
                sizes[t] = rows;
            }
            return before;
        }

        int linkPair(int pair, int guess, int share) {
            if (isIn(pair, 0, PAIRS - 1)) {
                guesses[pair] = guess;
                shares[pair] = share;
                forget(pair);
            }
            return linkCount();
        }

        int changeShare(int pair, int share) {
            int before = shareOf(pair, TRUE);
            if (isIn(pair, 0, PAIRS - 1)) {
                shares[pair] = share;
            }
            return before;
        }

        int changeSetting(int what, int v) {
            int before = settingOf(what);
            if (isIn(what, 0, SETTINGS - 1)) {
                settings[what] = v;
            }
            return before;
        }

        void forget(int pair) {
            if (isIn(pair, 0, PAIRS - 1)) {
                memories[pair] = 0;
                ages[pair] = 0;
            }
        }

        int passWeeks(int n) {
            weeks += n;
            for (int week = 0; week < n; week++) {
                for (int pair = 0; pair < PAIRS; pair++) {
                    makeOlder(pair);
                }
            }
            return memoryCount();
        }

        private void makeOlder(int pair) {
            if (hasMemory(pair)) {
                ages[pair]++;
                if (ages[pair] > settings[HORIZON]) {
                    forget(pair);
                }
            }
        }

        void noteRun(long truth, long regret) {
            runs++;
            sums[0] += truth;
            sums[1] += regret;
            sums[2] = truth;
            sums[3] = regret;
        }

        /** Makes the memories of a run of the set; answers how many surprises there are by it. */
        int learn(int set) {
            int before = surprises;
            for (int low = 0; low < TABLES; low++) {
                for (int high = low + 1; high < TABLES; high++) {
                    if (holds(set, low) && holds(set, high)) {
                        learnPair(low, high);
                    }
                }
            }
            return surprises - before;
        }

        private void learnPair(int low, int high) {
            int pair = pairIndex(low, high);
            if (!isLinked(pair)) {
                return;
            }
            ages[pair] = 0;
            int difference = differenceOf(pair);
            if (difference < settings[THRESHOLD]) {
                return;
            }
            int believed = shareOf(pair, BELIEVED);
            noteSurprise(10 * low + high, believed, shares[pair]);
            surprisesOf[pair]++;
            int move = Math.max(1, difference * settings[TRUST] / 10);
            memories[pair] = believed < shares[pair] ? believed + move : believed - move;
        }

        private int differenceOf(int pair) {
            return Math.abs(shareOf(pair, BELIEVED) - shareOf(pair, TRUE));
        }

        private void noteSurprise(int tablesOfPair, int believed, int share) {
            int at = surprises % TOLD * TOLD_NUMBERS;
            if (at >= 0 && at + 3 < told.length) {
                told[at] = tablesOfPair;
                told[at + 1] = believed;
                told[at + 2] = share;
                told[at + 3] = weeks;
            }
            surprises++;
        }

        int mostWronglyBelieved() {
            int found = NONE;
            int most = NONE;
            for (int low = 0; low < TABLES; low++) {
                for (int high = low + 1; high < TABLES; high++) {
                    int pair = pairIndex(low, high);
                    if (isLinked(pair) && differenceOf(pair) > most) {
                        most = differenceOf(pair);
                        found = 10 * low + high;
                    }
                }
            }
            return found;
        }
    }

    /** Reckons the rows of a set and of all sets within it, and the plan that costs least, by one kind of shares. */
    private static final class Planner {
        private final int[] sizes = new int[TABLES];
        private final int[] shares = new int[PAIRS];
        private final long[] rowsOf = new long[SETS];
        /** What the cheapest way on from a set of tables costs, and its first table. */
        private final long[] restOf = new long[SETS];
        private final int[] nextOf = new int[SETS];
        private final int[] tableAt = new int[TABLES];
        private final int[] wayAt = new int[TABLES];
        private int whole;
        private int count;

        /** Reckons the rows alone. The set has only tables that there are. */
        void weigh(World from, int set, int kind) {
            whole = set;
            count = 0;
            for (int t = 0; t < TABLES; t++) {
                sizes[t] = from.sizeOf(t);
            }
            for (int pair = 0; pair < PAIRS; pair++) {
                shares[pair] = from.shareOf(pair, kind);
            }
            rowsOf[0] = 1;
            // A set's rows come from those of the set without its highest table, which is the smaller number.
            int high = 0;
            for (int in = 1; in < SETS; in++) {
                if (in >> high > 1) {
                    high++;
                }
                if ((in & whole) == in) {
                    rowsOf[in] = rowsJoined(in & ~(1 << high), high);
                }
            }
        }

        private long rowsJoined(int lower, int high) {
            long rows = rowsOf(lower) * sizeOf(high);
            if (rows > MOST_ROWS) {
                rows = MOST_ROWS;
            }
            // The pair of the lowest table and this one; those with the next ones stand behind it.
            int pair = high * (high - 1) / 2;
            for (int low = 0; low < high; low++) {
                int share = pair >= 0 && pair < PAIRS ? shares[pair] : 0;
                if ((lower >> low & 1) == 1 && share > 0) {
                    rows = rows * share / 1000;
                    if (rows < 1) {
                        rows = 1;
                    }
                }
                pair++;
            }
            return rows;
        }

        void choose(World from, int set, int kind) {
            weigh(from, set, kind);
            for (int done = SETS - 1; done >= 0; done--) {
                if ((done & whole) == done) {
                    findNext(done);
                }
            }
            followNext();
        }

        /** Of several cheapest ways on the one with the lowest next table is kept, as plans are chosen so. */
        private void findNext(int done) {
            long least = 0;
            int next = NONE;
            for (int t = 0; t < TABLES; t++) {
                int with = done | 1 << t;
                if (with != done && (with & whole) == with) {
                    long costs = stepCost(done, t, cheaperWay(done, t)) + restOf(with);
                    if (next == NONE || costs < least) {
                        least = costs;
                        next = t;
                    }
                }
            }
            if (done >= 0 && done < SETS) {
                restOf[done] = least;
                nextOf[done] = next;
            }
        }

        private void followNext() {
            int done = 0;
            for (int k = 0; k < TABLES; k++) {
                int t = isIn(done, 0, SETS - 1) ? nextOf[done] : NONE;
                if (t < 0 || t >= TABLES) {
                    return;
                }
                tableAt[k] = t;
                wayAt[k] = cheaperWay(done, t);
                count = k + 1;
                done |= 1 << t;
            }
        }

        long rowsOf(int set) {
            return set >= 0 && set < SETS ? rowsOf[set] : 1;
        }

        private long restOf(int set) {
            return set >= 0 && set < SETS ? restOf[set] : 0;
        }

        private int sizeOf(int t) {
            return t >= 0 && t < TABLES ? sizes[t] : 0;
        }

        int tableAt(int k) {
            return k >= 0 && k < count && k < TABLES ? tableAt[k] : NONE;
        }

        int wayAt(int k) {
            return k >= 0 && k < count && k < TABLES ? wayAt[k] : NONE;
        }

        long leastCost() {
            return restOf[0];
        }

        private int cheaperWay(int done, int t) {
            long rows = rowsOf(done);
            int rowsOfNext = sizeOf(t);
            return rows * rowsOfNext <= 3 * (rows + rowsOfNext) ? LOOPS : LIST;
        }

        /** What it costs to join a table to those before it; the first one is taken as it is. */
        private long stepCost(int done, int t, int way) {
            if (done == 0) {
                return 0;
            }
            long rows = rowsOf(done);
            int rowsOfNext = sizeOf(t);
            long costs = way == LOOPS ? rows * rowsOfNext : 3 * (rows + rowsOfNext);
            costs += rowsOf(done | 1 << t);
            return costs > MOST_STEP_COST ? MOST_STEP_COST : costs;
        }

        /** What the plan of another planner costs by these shares, with the ways of joining that it chose. */
        long costAsPlannedBy(Planner by) {
            long costs = 0;
            int done = 0;
            for (int k = 0; k < TABLES && k < by.count; k++) {
                int t = by.tableAt(k);
                costs += stepCost(done, t, by.wayAt(k));
                done |= 1 << t;
            }
            return costs;
        }

        /** What the plan that was read costs by these shares, with ways of joining by the same ones. */
        long costOfRead(PlanReader plan) {
            long costs = 0;
            int done = 0;
            for (int k = 0; k < TABLES && k < plan.count; k++) {
                int t = plan.tableAt(k);
                costs += stepCost(done, t, cheaperWay(done, t));
                done |= 1 << t;
            }
            return costs;
        }

        boolean hasOrderOf(Planner by) {
            for (int k = 0; k < TABLES; k++) {
                if (tableAt(k) != by.tableAt(k)) {
                    return false;
                }
            }
            return true;
        }
    }

    /** The states before the last actions, in a ring. */
    private static final class History {
        private final World[] states = new World[REMEMBERED];
        private int count;
        private int next;

        History() {
            for (int i = 0; i < REMEMBERED; i++) {
                states[i] = new World();
            }
        }

        boolean isEmpty() {
            return count == 0;
        }

        void forgetAll() {
            count = 0;
        }

        void remember(World now) {
            World state = stateAt(next);
            if (state != null) {
                state.takeFrom(now);
                next = (next + 1) % REMEMBERED;
                count = Math.min(count + 1, REMEMBERED);
            }
        }

        int takeBack(World now) {
            int last = (next + REMEMBERED - 1) % REMEMBERED;
            World state = stateAt(last);
            if (state != null && count > 0) {
                now.takeFrom(state);
                next = last;
                count--;
            }
            return count;
        }

        private World stateAt(int i) {
            return isIn(i, 0, REMEMBERED - 1) ? states[i] : null;
        }
    }

    private static final class Slots {
        private final World[] states = new World[SLOTS];
        private final boolean[] filled = new boolean[SLOTS];

        Slots() {
            for (int i = 0; i < SLOTS; i++) {
                states[i] = new World();
            }
        }

        void emptyAll() {
            for (int i = 0; i < SLOTS; i++) {
                filled[i] = false;
            }
        }

        boolean isFilled(int slot) {
            return isIn(slot, 0, SLOTS - 1) && filled[slot];
        }

        void put(int slot, World now) {
            World state = isIn(slot, 0, SLOTS - 1) ? states[slot] : null;
            if (state != null) {
                state.takeFrom(now);
                filled[slot] = true;
            }
        }

        void takeOut(int slot, World now) {
            World state = isFilled(slot) ? states[slot] : null;
            if (state != null) {
                now.takeFrom(state);
            }
        }
    }

    private static final class Text {
        int length;
        private final char[] signs = new char[TEXT_LENGTH];

        boolean isFull() {
            return length >= TEXT_LENGTH;
        }

        int put(char c) {
            if (isIn(length, 0, TEXT_LENGTH - 1)) {
                signs[length] = c;
                length++;
            }
            return length;
        }

        int empty() {
            int before = length;
            length = 0;
            return before;
        }

        int signAt(int i) {
            return isIn(i, 0, TEXT_LENGTH - 1) && i < length ? signs[i] : NONE;
        }

        int firstErrorFor(Reader reader) {
            reader.begin();
            for (int i = 0; i < length; i++) {
                if (!reader.takes(signAt(i))) {
                    return i;
                }
            }
            return reader.isComplete() ? NONE : length;
        }
    }

    /** Reads a text character by character. */
    private abstract static class Reader {
        abstract void begin();

        /** Whether the character is allowed at its place; nothing is read behind one that is not. */
        abstract boolean takes(int c);

        /** Whether the text may end here. */
        abstract boolean isComplete();
    }

    private static final class EntryReader extends Reader {
        private static final int ENTRY = 0;
        private static final int FIRST = 1;
        private static final int SECOND = 2;
        private static final int SIZE = 3;
        private static final int GUESS = 4;
        private static final int SHARE = 5;

        private int place;
        int first;
        int second;
        int guess;
        /** The number that is being read; 0 ahead of its first digit. */
        int number;

        void begin() {
            expect(ENTRY);
        }

        boolean isComplete() {
            return number > 0 && (place == SIZE || place == SHARE);
        }

        boolean isTable() {
            return place == SIZE;
        }

        boolean takes(int c) {
            switch (place) {
                case ENTRY:
                    return takesEntry(c);
                case FIRST:
                    first = c - '0';
                    return isIn(first, 0, TABLES - 1) && expect(SECOND);
                case SECOND:
                    second = c - '0';
                    return isIn(second, 0, TABLES - 1) && second != first && expect(GUESS);
                case SIZE:
                    return takesDigit(c, MOST_SIZE) || takesEnd(c);
                case GUESS:
                    return takesDigit(c, MOST_SHARE) || takesComma(c);
                default:
                    return takesDigit(c, MOST_SHARE) || takesEnd(c);
            }
        }

        private boolean expect(int next) {
            place = next;
            number = 0;
            return true;
        }

        private boolean takesEntry(int c) {
            return c == 't' && expect(SIZE) || c == 'p' && expect(FIRST);
        }

        private boolean takesEnd(int c) {
            return c == ';' && isComplete() && expect(ENTRY);
        }

        private boolean takesComma(int c) {
            if (c != ',' || number == 0) {
                return false;
            }
            guess = number;
            return expect(SHARE);
        }

        private boolean takesDigit(int c, int most) {
            if (!isIn(c, '0', '9') || !isIn(number * 10 + c - '0', 1, most)) {
                return false;
            }
            number = number * 10 + c - '0';
            return true;
        }
    }

    private static final class PlanReader extends Reader {
        int count;
        private int seen;
        private boolean expectsTable;
        private final int[] order = new int[TABLES];

        void begin() {
            count = 0;
            seen = 0;
            expectsTable = true;
        }

        boolean isComplete() {
            return !expectsTable;
        }

        boolean takes(int c) {
            if (!expectsTable) {
                expectsTable = c == '>' && count < TABLES;
                return expectsTable;
            }
            int t = c - '0';
            if (!isIn(t, 0, TABLES - 1) || holds(seen, t) || !isIn(count, 0, TABLES - 1)) {
                return false;
            }
            order[count] = t;
            count++;
            seen |= 1 << t;
            expectsTable = false;
            return true;
        }

        /** The set of the tables of the plan. */
        int tables() {
            return seen;
        }

        int tableAt(int k) {
            return isIn(k, 0, TABLES - 1) && k < count ? order[k] : NONE;
        }
    }
}
