import java.util.ArrayDeque;
import java.util.ArrayList;
import java.util.Arrays;
import java.util.Deque;
import java.util.List;
import java.util.Random;
import java.util.TreeMap;

/**
 * Runs of up to 512 calls, drawn by fixed seeds, on the program and on a slow model of the document that tries every
 * order of a set. The answers and the very classes of the exceptions must be the same.
 * Arguments: how many runs (if another number than the usual one), and the first seed.
 */
public final class ModelTest {
    private static final int CALLS = 512;

    public static void main(String[] args) {
        int runs = args.length > 0 ? Integer.parseInt(args[0]) : 150;
        long firstSeed = args.length > 1 ? Long.parseLong(args[1]) : 1;
        int wrong = 0;
        long calls = 0;
        for (int i = 0; i < runs && wrong < 10; i++) {
            Run run = new Run(firstSeed + i);
            if (!run.agrees()) {
                wrong++;
            }
            calls += run.calls;
        }
        System.out.println("ModelTest: " + calls + " calls in " + runs + " runs, " + wrong + " runs wrong");
        if (wrong != 0) {
            System.exit(1);
        }
    }

    // ---- the model

    /** The exceptions of the model. */
    private static final class Refused extends RuntimeException {
        private static final long serialVersionUID = 1;
        final Class<?> as;

        Refused(Class<?> as) {
            this.as = as;
        }
    }

    private static void index(boolean ok) {
        if (!ok) {
            throw new Refused(IndexOutOfBoundsException.class);
        }
    }

    private static void argument(boolean ok) {
        if (!ok) {
            throw new Refused(IllegalArgumentException.class);
        }
    }

    private static void state(boolean ok) {
        if (!ok) {
            throw new Refused(IllegalStateException.class);
        }
    }

    private static final class Link {
        int guess;
        int share;
        Integer memory;
        int age;

        int by(int kind) {
            return kind == 0 ? guess : kind == 2 ? share : memory != null ? memory : guess;
        }

        Link copy() {
            Link l = new Link();
            l.guess = guess;
            l.share = share;
            l.memory = memory;
            l.age = age;
            return l;
        }
    }

    private static final class Plan {
        List<Integer> order = new ArrayList<>();
        List<Integer> ways = new ArrayList<>();
        long cost;
    }

    private static final class State {
        List<Integer> sizes = new ArrayList<>();
        TreeMap<Integer, Link> links = new TreeMap<>();
        TreeMap<Integer, Integer> surprisesOf = new TreeMap<>();
        List<int[]> surprises = new ArrayList<>();
        int[] settings = {50, 10, 4};
        int weeks;
        int runs;
        long[] sums = new long[4];

        State copy() {
            State s = new State();
            s.sizes.addAll(sizes);
            links.forEach((k, v) -> s.links.put(k, v.copy()));
            s.surprisesOf.putAll(surprisesOf);
            s.surprises.addAll(surprises);
            s.settings = settings.clone();
            s.weeks = weeks;
            s.runs = runs;
            s.sums = sums.clone();
            return s;
        }

        /** Pairs are known by ten times the lower table and the higher one, so that they ascend as the document says. */
        static int key(int a, int b) {
            return 10 * Math.min(a, b) + Math.max(a, b);
        }

        boolean is(int t) {
            return t >= 0 && t < sizes.size();
        }

        boolean are(int set) {
            if (set < 0) {
                return false;
            }
            for (int t = 0; t < 31; t++) {
                if ((set & 1 << t) != 0 && !is(t)) {
                    return false;
                }
            }
            return true;
        }

        long memories() {
            return links.values().stream().filter(l -> l.memory != null).count();
        }

        long rows(int set, int kind) {
            long rows = 1;
            for (int t = 0; t < sizes.size(); t++) {
                if ((set & 1 << t) == 0) {
                    continue;
                }
                rows = Math.min(rows * sizes.get(t), 1000000000000L);
                for (int u = 0; u < t; u++) {
                    Link l = links.get(key(u, t));
                    if ((set & 1 << u) != 0 && l != null) {
                        rows = Math.max(rows * l.by(kind) / 1000, 1);
                    }
                }
            }
            return rows;
        }

        /** What an order costs by one kind of shares, with the ways told, or by ways by the same shares. */
        Plan price(List<Integer> order, int kind, List<Integer> ways, long[] rowsOf) {
            Plan p = new Plan();
            p.order = new ArrayList<>(order);
            int set = 0;
            for (int k = 0; k < order.size(); k++) {
                int t = order.get(k);
                if (k > 0) {
                    long rows = rowsOf[set];
                    long loops = rows * sizes.get(t);
                    long list = 3 * (rows + sizes.get(t));
                    int way = ways == null ? loops <= list ? 0 : 1 : ways.get(k - 1);
                    p.ways.add(way);
                    long step = (way == 0 ? loops : list) + rowsOf[set | 1 << t];
                    p.cost += Math.min(step, 1000000000000000L);
                }
                set |= 1 << t;
            }
            return p;
        }

        long[] allRows(int kind) {
            long[] rowsOf = new long[1 << sizes.size()];
            for (int set = 0; set < rowsOf.length; set++) {
                rowsOf[set] = rows(set, kind);
            }
            return rowsOf;
        }

        Plan best(int set, int kind) {
            return bestFrom(set, new ArrayList<>(), kind, allRows(kind), null);
        }

        /** Tries all orders, in the order of the document; a later one must be cheaper to be taken. */
        private Plan bestFrom(int left, List<Integer> order, int kind, long[] rowsOf, Plan best) {
            if (left == 0) {
                Plan p = price(order, kind, null, rowsOf);
                return best == null || p.cost < best.cost ? p : best;
            }
            Plan now = best;
            for (int t = 0; t < sizes.size(); t++) {
                if ((left & 1 << t) != 0) {
                    order.add(t);
                    now = bestFrom(left & ~(1 << t), order, kind, rowsOf, now);
                    order.remove(order.size() - 1);
                }
            }
            return now;
        }

        long truth(int set) {
            Plan p = best(set, 1);
            return price(p.order, 2, p.ways, allRows(2)).cost;
        }

        long regret(int set) {
            return truth(set) - best(set, 2).cost;
        }

        int run(int set) {
            index(are(set));
            argument(set != 0);
            long truth = truth(set);
            long regret = regret(set);
            runs++;
            sums[0] += truth;
            sums[1] += regret;
            sums[2] = truth;
            sums[3] = regret;
            int found = 0;
            for (var e : links.entrySet()) {
                int low = e.getKey() / 10;
                int high = e.getKey() % 10;
                if ((set & 1 << low) == 0 || (set & 1 << high) == 0) {
                    continue;
                }
                Link l = e.getValue();
                int believed = l.by(1);
                int difference = Math.abs(believed - l.share);
                if (difference >= settings[0]) {
                    found++;
                    surprises.add(new int[] {e.getKey(), believed, l.share, weeks});
                    surprisesOf.merge(e.getKey(), 1, Integer::sum);
                    int move = Math.max(difference * settings[1] / 10, 1);
                    l.memory = believed + (l.share > believed ? move : -move);
                    l.age = 0;
                } else if (l.memory != null) {
                    l.age = 0;
                }
            }
            return found;
        }

        int weeks(int n) {
            argument(n >= 1 && n <= 20);
            for (int i = 0; i < n; i++) {
                weeks++;
                for (Link l : links.values()) {
                    l.age++;
                    if (l.memory != null && l.age > settings[2]) {
                        l.memory = null;
                    }
                }
            }
            return (int) memories();
        }

        int set(int what, int v) {
            argument(what == 0 && v >= 1 && v <= 1000 || what == 1 && v >= 1 && v <= 10
                    || what == 2 && v >= 0 && v <= 20);
            int before = settings[what];
            settings[what] = v;
            return before;
        }

        void two(int a, int b) {
            index(is(a) && is(b));
            argument(a != b);
        }

        int drift(int a, int b, int share) {
            two(a, b);
            argument(share >= 1 && share <= 1000);
            Link l = links.get(key(a, b));
            state(l != null);
            int before = l.share;
            l.share = share;
            return before;
        }

        int link(int a, int b, int guess, int share) {
            two(a, b);
            argument(guess >= 1 && guess <= 1000 && share >= 1 && share <= 1000);
            Link l = new Link();
            l.guess = guess;
            l.share = share;
            links.put(key(a, b), l);
            return links.size();
        }

        int add(int size) {
            argument(size >= 1 && size <= 9999);
            state(sizes.size() < 7);
            sizes.add(size);
            return sizes.size() - 1;
        }
    }

    private static final class Model {
        String text = "";
        State now = new State();
        Deque<State> past = new ArrayDeque<>();
        State[] slots = new State[2];

        /** Before an action, which may yet be refused. */
        private State before;

        void begin() {
            before = now.copy();
        }

        long acted(long answer) {
            past.addLast(before);
            if (past.size() > 14) {
                past.removeFirst();
            }
            return answer;
        }

        int errorOf(boolean plan) {
            for (int i = 0; i < text.length(); i++) {
                if (!(plan ? beginsPlan(text.substring(0, i + 1)) : beginsWorld(text.substring(0, i + 1)))) {
                    return i;
                }
            }
            return (plan ? isPlan(text) : isWorld(text)) ? -1 : text.length();
        }

        static boolean isPlan(String s) {
            return s.matches("[0-6](>[0-6])*") && s.chars().filter(c -> c != '>').distinct().count()
                    == s.chars().filter(c -> c != '>').count();
        }

        /** Whether a plan begins with this. */
        static boolean beginsPlan(String s) {
            if (s.isEmpty() || isPlan(s)) {
                return true;
            }
            return s.endsWith(">") && isPlan(s.substring(0, s.length() - 1)) && s.length() < 14;
        }

        static final String SIZE = "[1-9][0-9]{0,3}";
        static final String SHARE = "([1-9][0-9]{0,2}|1000)";

        static boolean isEntry(String s) {
            return s.matches("t" + SIZE) || s.matches("p[0-6][0-6]" + SHARE + "," + SHARE) && s.charAt(1) != s.charAt(2);
        }

        static boolean isWorld(String s) {
            for (String entry : s.split(";", -1)) {
                if (!isEntry(entry)) {
                    return false;
                }
            }
            return true;
        }

        static boolean beginsWorld(String s) {
            String[] entries = s.split(";", -1);
            for (int i = 0; i < entries.length - 1; i++) {
                if (!isEntry(entries[i])) {
                    return false;
                }
            }
            String last = entries[entries.length - 1];
            // What some entry begins with becomes one by one of these ends.
            for (String end : new String[] {"", "1", "t1", "p011,1", "011,1", "11,1", "01,1", "1,1", ",1"}) {
                if (isEntry(last + end)) {
                    return true;
                }
            }
            return last.isEmpty();
        }

        long load() {
            state(errorOf(false) == -1);
            now = new State();
            past.clear();
            slots = new State[2];
            long leftOut = 0;
            for (String entry : text.split(";")) {
                try {
                    if (entry.charAt(0) == 't') {
                        now.add(Integer.parseInt(entry.substring(1)));
                    } else {
                        String[] shares = entry.substring(3).split(",");
                        now.link(entry.charAt(1) - '0', entry.charAt(2) - '0', Integer.parseInt(shares[0]),
                                Integer.parseInt(shares[1]));
                    }
                } catch (Refused e) {
                    leftOut++;
                }
            }
            return leftOut;
        }

        long about(int what) {
            argument(what >= 0 && what <= 5);
            return new long[] {now.sizes.size(), now.links.size(), now.memories(), now.weeks, now.runs,
                now.surprises.size()}[what];
        }

        long pair(int a, int b, int what) {
            now.two(a, b);
            argument(what >= 0 && what <= 4);
            Link l = now.links.get(State.key(a, b));
            if (l == null) {
                return -1;
            }
            return new long[] {l.guess, l.share, l.by(1), l.memory == null ? -1 : l.age,
                now.surprisesOf.getOrDefault(State.key(a, b), 0)}[what];
        }

        long surprise(int k, int what) {
            argument(k >= 0 && k <= 9);
            argument(what >= 0 && what <= 3);
            int n = now.surprises.size();
            return k < n ? now.surprises.get(n - 1 - k)[what] : -1;
        }

        long costOfText(int kind) {
            argument(kind >= 0 && kind <= 2);
            state(errorOf(true) == -1);
            List<Integer> order = new ArrayList<>();
            for (String digit : text.split(">")) {
                order.add(Integer.parseInt(digit));
                state(now.is(Integer.parseInt(digit)));
            }
            return now.price(order, kind, null, now.allRows(kind)).cost;
        }

        long matters(int a, int b, int set) {
            index(now.is(a) && now.is(b) && now.are(set));
            argument(a != b);
            Link l = now.links.get(State.key(a, b));
            if (l == null || l.memory == null) {
                return 0;
            }
            State other = now.copy();
            other.links.get(State.key(a, b)).memory = null;
            return now.best(set, 1).order.equals(other.best(set, 1).order) ? 0 : 1;
        }

        long worst() {
            long found = -1;
            int most = -1;
            for (var e : now.links.entrySet()) {
                int difference = Math.abs(e.getValue().by(1) - e.getValue().share);
                if (difference > most) {
                    most = difference;
                    found = e.getKey();
                }
            }
            return found;
        }

        long learnsIn(int set) {
            index(now.are(set));
            argument(set != 0);
            State copy = now.copy();
            for (int i = 0; i <= 30; i++) {
                if (copy.regret(set) == 0) {
                    return i;
                }
                copy.run(set);
            }
            return -1;
        }

        long runScript(int n, long script) {
            argument(n >= 1 && n <= 3);
            argument(script >= 0 && Long.toString(script).length() <= 6 * n);
            String digits = "0".repeat(18) + script;
            digits = digits.substring(digits.length() - 6 * n);
            State copy = now.copy();
            for (int i = 0; i < n; i++) {
                try {
                    if (!does(copy, digits.substring(6 * i, 6 * i + 6))) {
                        return i;
                    }
                } catch (Refused e) {
                    return i;
                }
            }
            return -1;
        }

        private static boolean does(State s, String d) {
            int a = d.charAt(1) - '0';
            int b = d.charAt(2) - '0';
            int xyz = Integer.parseInt(d.substring(3));
            int nn = Integer.parseInt(d.substring(4));
            if (d.matches("100...")) {
                s.run(xyz);
                return true;
            }
            if (d.matches("2000..")) {
                s.weeks(nn);
                return true;
            }
            if (d.matches("3.....")) {
                s.drift(a, b, xyz);
                return true;
            }
            if (d.matches("4.0...")) {
                s.set(a, xyz);
                return true;
            }
            if (d.matches("5.....")) {
                s.link(a, b, xyz, xyz);
                return true;
            }
            if (d.matches("6.....")) {
                index(s.is(a) && s.are(xyz));
                List<Integer> order = s.best(xyz, 1).order;
                return b < order.size() && order.get(b) == a;
            }
            if (d.matches("7..0..")) {
                s.two(a, b);
                Link l = s.links.get(State.key(a, b));
                return l != null && l.memory != null && l.age <= nn;
            }
            if (d.matches("8000..")) {
                return s.surprises.size() >= nn;
            }
            if (d.matches("900...")) {
                index(s.are(xyz));
                return s.regret(xyz) == 0;
            }
            return false;
        }

        long simulate(long seed, int m) {
            argument(m >= 1 && m <= 40);
            State copy = now.copy();
            long x = seed;
            int n = copy.sizes.size();
            for (int i = 0; i < m && n > 0; i++) {
                x = x * 6364136223846793005L + 1442695040888963407L;
                int r = (int) (x >>> 33);
                int a = r / 8 % n;
                int b = r / 64 % n;
                try {
                    switch (r % 8) {
                        case 0, 1, 2, 3 -> copy.run(1 + r / 8 % ((1 << n) - 1));
                        case 4 -> copy.weeks(1);
                        case 5, 6 -> copy.drift(a, b, 1 + r / 512 % 1000);
                        default -> copy.set(0, 1 + r / 8 % 200);
                    }
                } catch (Refused e) {
                    // What would throw an exception is left out.
                }
            }
            return 100L * (copy.surprises.size() - now.surprises.size()) + copy.memories();
        }
    }

    // ---- runs of calls

    private interface Call {
        long on();
    }

    /** What the worlds of a run are like: anything; huge in truth, but believed small; or of tables that are alike. */
    private enum Mood { USUAL, BELIEVED_SMALL, ALIKE }

    private static final class Run {
        int calls;
        private final long seed;
        private final Random random;
        private final SurprisedPlans program = new SurprisedPlans();
        private final Model model = new Model();
        private final int mostTables;
        private final Mood mood;
        private final List<String> told = new ArrayList<>();
        private boolean wrong;

        Run(long seed) {
            this.seed = seed;
            random = new Random(seed * 7919);
            mostTables = seed % 6 == 0 ? 7 : (int) (2 + seed % 6);
            Mood[] moods = {Mood.USUAL, Mood.USUAL, Mood.BELIEVED_SMALL, Mood.ALIKE};
            mood = moods[(int) Math.floorMod(seed / 6, 4L)];
        }

        boolean agrees() {
            if (random.nextInt(5) > 0) {
                prepare();
            }
            while (calls < CALLS && !wrong) {
                one();
            }
            return !wrong;
        }

        private void prepare() {
            for (int t = 0; t < mostTables; t++) {
                add(size());
            }
            for (int a = 0; a < mostTables; a++) {
                for (int b = a + 1; b < mostTables; b++) {
                    if (random.nextInt(3) > 0) {
                        link(a, b, guess(), share());
                    }
                }
            }
        }

        private void check(String name, Call onProgram, Call onModel) {
            if (wrong || calls >= CALLS) {
                return;
            }
            calls++;
            String got = answer(onProgram);
            String want = answer(onModel);
            told.add(name + " " + got);
            if (!got.equals(want)) {
                wrong = true;
                System.out.println("seed " + seed + ", call " + calls + ": due is " + want);
                told.subList(Math.max(0, told.size() - 25), told.size()).forEach(s -> System.out.println("  " + s));
            }
        }

        private static String answer(Call call) {
            try {
                return Long.toString(call.on());
            } catch (Refused e) {
                return e.as.getName();
            } catch (RuntimeException e) {
                return e.getClass().getName();
            }
        }

        private void action(String name, Call onProgram, Call onModel) {
            check(name, onProgram, () -> {
                model.begin();
                return model.acted(onModel.on());
            });
        }

        // Arguments: mostly in their ranges, now and then at or behind the edges.

        private boolean rarely() {
            return random.nextInt(25) == 0;
        }

        private int in(int least, int most) {
            if (rarely()) {
                int[] edges = {least - 1, most + 1, least, most, Integer.MIN_VALUE, Integer.MAX_VALUE, -1};
                return edges[random.nextInt(edges.length)];
            }
            return least + random.nextInt(most - least + 1);
        }

        private int table() {
            int n = model.now.sizes.size();
            return in(0, Math.max(0, n - 1));
        }

        private int tables() {
            int n = model.now.sizes.size();
            if (random.nextInt(3) == 0) {
                return (1 << n) - 1;
            }
            return in(0, (1 << n) - 1);
        }

        private int size() {
            if (mood == Mood.ALIKE) {
                return in(1, 4);
            }
            if (mood == Mood.BELIEVED_SMALL && random.nextInt(5) > 0) {
                return in(9990, 9999);
            }
            return switch (random.nextInt(4)) {
                case 0 -> in(1, 12);
                case 1 -> in(1, 200);
                default -> in(1, 9999);
            };
        }

        private int guess() {
            return mood == Mood.BELIEVED_SMALL ? in(1, 2) : share();
        }

        private int share() {
            if (mood == Mood.ALIKE) {
                return 500 * in(1, 2);
            }
            if (mood == Mood.BELIEVED_SMALL && random.nextInt(5) > 0) {
                return in(900, 1000);
            }
            return switch (random.nextInt(4)) {
                case 0 -> in(1, 10);
                case 1 -> in(1, 200);
                default -> in(1, 1000);
            };
        }

        private void add(int size) {
            action("add(" + size + ")", () -> program.add(size), () -> model.now.add(size));
        }

        private void link(int a, int b, int guess, int share) {
            action("link(" + a + ", " + b + ", " + guess + ", " + share + ")", () -> program.link(a, b, guess, share),
                    () -> model.now.link(a, b, guess, share));
        }

        private void one() {
            int kind = random.nextInt(40);
            if (kind < 18) {
                oneAction(kind);
            } else if (kind < 36) {
                oneQuestion(kind);
            } else if (random.nextInt(4) == 0) {
                oneText();
            } else {
                oneSlot();
            }
        }

        private void oneAction(int kind) {
            int a = table();
            int b = table();
            int set = tables();
            switch (kind) {
                case 0 -> {
                    if (model.now.sizes.size() < mostTables || rarely() && mostTables == 7) {
                        add(size());
                    }
                }
                case 1 -> {
                    int size = size();
                    action("resize(" + a + ", " + size + ")", () -> program.resize(a, size), () -> {
                        index(model.now.is(a));
                        argument(size >= 1 && size <= 9999);
                        return model.now.sizes.set(a, size);
                    });
                }
                case 2, 3 -> link(a, b, guess(), share());
                case 4, 5, 6 -> {
                    int share = share();
                    action("drift(" + a + ", " + b + ", " + share + ")", () -> program.drift(a, b, share),
                            () -> model.now.drift(a, b, share));
                }
                case 7, 8, 9, 10, 11 ->
                    action("run(" + set + ")", () -> program.run(set), () -> model.now.run(set));
                case 12, 13 -> {
                    int n = random.nextInt(3) > 0 ? in(1, 3) : in(1, 20);
                    action("weeks(" + n + ")", () -> program.weeks(n), () -> model.now.weeks(n));
                }
                case 14, 15 -> {
                    int what = in(0, 2);
                    int v = what == 0 ? random.nextInt(2) == 0 ? in(1, 60) : in(1, 1000)
                            : what == 1 ? in(1, 10) : in(0, 20);
                    action("set(" + what + ", " + v + ")", () -> program.set(what, v), () -> model.now.set(what, v));
                }
                default -> {
                    int times = rarely() ? 16 : 1;
                    for (int i = 0; i < times; i++) {
                        undo();
                    }
                }
            }
        }

        private void undo() {
            check("undo()", () -> program.undo(), () -> {
                state(!model.past.isEmpty());
                model.now = model.past.removeLast();
                return model.past.size();
            });
        }

        private void oneQuestion(int which) {
            int a = table();
            int b = table();
            int set = tables();
            int kind = in(0, 2);
            switch (which) {
                case 18 -> {
                    int what = in(0, 5);
                    check("about(" + what + ")", () -> program.about(what), () -> model.about(what));
                }
                case 19 -> {
                    int what = in(0, 3);
                    check("sum(" + what + ")", () -> program.sum(what), () -> {
                        argument(what >= 0 && what <= 3);
                        return model.now.sums[what];
                    });
                }
                case 20 -> check("size(" + a + ")", () -> program.size(a), () -> {
                    index(model.now.is(a));
                    return model.now.sizes.get(a);
                });
                case 21, 22 -> {
                    int what = in(0, 4);
                    check("pair(" + a + ", " + b + ", " + what + ")", () -> program.pair(a, b, what),
                            () -> model.pair(a, b, what));
                }
                case 23 -> {
                    int k = in(0, 9);
                    int what = in(0, 3);
                    check("surprise(" + k + ", " + what + ")", () -> program.surprise(k, what),
                            () -> model.surprise(k, what));
                }
                case 24 -> check("setting(" + kind + ")", () -> program.setting(kind), () -> {
                    argument(kind >= 0 && kind <= 2);
                    return model.now.settings[kind];
                });
                case 25 -> check("rows(" + set + ", " + kind + ")", () -> program.rows(set, kind), () -> {
                    index(model.now.are(set));
                    argument(kind >= 0 && kind <= 2);
                    return model.now.rows(set, kind);
                });
                case 26, 27 -> {
                    int k = in(0, 6);
                    check("order(" + set + ", " + kind + ", " + k + ")", () -> program.order(set, kind, k), () -> {
                        index(model.now.are(set));
                        argument(kind >= 0 && kind <= 2 && k >= 0);
                        List<Integer> order = model.now.best(set, kind).order;
                        return k < order.size() ? order.get(k) : -1;
                    });
                }
                case 28 -> {
                    int k = in(1, 6);
                    check("way(" + set + ", " + k + ")", () -> program.way(set, k), () -> {
                        index(model.now.are(set));
                        argument(k >= 1);
                        List<Integer> ways = model.now.best(set, 1).ways;
                        return k <= ways.size() ? ways.get(k - 1) : -1;
                    });
                }
                case 29, 30 -> check("cost(" + set + ", " + kind + ")", () -> program.cost(set, kind), () -> {
                    index(model.now.are(set));
                    argument(kind >= 0 && kind <= 2);
                    return kind == 0 ? model.now.best(set, 1).cost
                            : kind == 1 ? model.now.truth(set) : model.now.regret(set);
                });
                case 31 -> check("matters(" + a + ", " + b + ", " + set + ")", () -> program.matters(a, b, set),
                        () -> model.matters(a, b, set));
                case 32 -> check("worst()", () -> program.worst(), () -> model.worst());
                case 33 -> {
                    if (mostTables < 7 || rarely()) {
                        check("learnsIn(" + set + ")", () -> program.learnsIn(set), () -> model.learnsIn(set));
                    }
                }
                case 34 -> oneScript();
                default -> {
                    long seed = random.nextBoolean() ? random.nextLong() : random.nextInt(20) - 10;
                    int m = mostTables < 7 ? in(1, 40) : 1 + random.nextInt(5);
                    check("simulate(" + seed + ", " + m + ")", () -> program.simulate(seed, m),
                            () -> model.simulate(seed, m));
                }
            }
        }

        private void oneScript() {
            int n = in(1, 3);
            long s = 0;
            int groups = n >= 1 && n <= 3 ? n : 2;
            for (int i = 0; i < groups; i++) {
                s = s * 1000000 + command();
            }
            if (rarely()) {
                long[] edges = {-1, 0, 999999, 1000000, 999999999999L, 1000000000000L, 999999999999999999L,
                    1000000000000000000L, Long.MAX_VALUE, Long.MIN_VALUE};
                s = edges[random.nextInt(edges.length)];
            }
            long script = s;
            check("runScript(" + n + ", " + script + ")", () -> program.runScript(n, script),
                    () -> model.runScript(n, script));
        }

        private long command() {
            int n = Math.max(1, model.now.sizes.size());
            int a = random.nextInt(n);
            int b = random.nextInt(n);
            int set = random.nextInt(1 << n);
            int command = switch (1 + random.nextInt(9)) {
                case 1 -> 100000 + set;
                case 2 -> 200000 + random.nextInt(22);
                case 3 -> 300000 + a * 10000 + b * 1000 + random.nextInt(1000);
                case 4 -> 400000 + random.nextInt(4) * 10000 + random.nextInt(22);
                case 5 -> 500000 + a * 10000 + b * 1000 + random.nextInt(1000);
                case 6 -> 600000 + a * 10000 + random.nextInt(2) * 1000 + set;
                case 7 -> 700000 + a * 10000 + b * 1000 + random.nextInt(6);
                case 8 -> 800000 + random.nextInt(Math.min(99, model.now.surprises.size() + 3));
                default -> 900000 + set;
            };
            if (random.nextInt(8) == 0) {
                int[] places = {1, 10, 100, 1000, 10000, 100000};
                int place = places[random.nextInt(6)];
                command += (random.nextInt(10) - command / place % 10) * place;
            }
            return command;
        }

        private void oneText() {
            String text = switch (random.nextInt(3)) {
                case 0 -> world();
                case 1 -> plan();
                default -> "";
            };
            if (random.nextInt(4) == 0 && !text.isEmpty()) {
                String signs = "0123456789tp;,>x ";
                int at = random.nextInt(text.length());
                text = text.substring(0, at) + signs.charAt(random.nextInt(signs.length()))
                        + text.substring(at + random.nextInt(2));
            }
            if (random.nextInt(3) > 0) {
                check("clearText()", () -> program.clearText(), () -> {
                    int before = model.text.length();
                    model.text = "";
                    return before;
                });
            }
            for (int i = 0; i < text.length(); i++) {
                append(text.charAt(i));
            }
            if (rarely()) {
                append(in(0, 255));
            }
            boolean plan = random.nextBoolean();
            check("errorPosition(" + plan + ")", () -> program.errorPosition(plan), () -> model.errorOf(plan));
            check("errorPosition(" + !plan + ")", () -> program.errorPosition(!plan), () -> model.errorOf(!plan));
            int kind = in(0, 2);
            check("costOfText(" + kind + ")", () -> program.costOfText(kind), () -> model.costOfText(kind));
            if (random.nextInt(3) == 0) {
                check("load()", () -> program.load(), () -> model.load());
            }
        }

        private void append(int c) {
            check("append(" + c + ")", () -> program.append(c), () -> {
                argument(c >= 0 && c <= 255);
                state(model.text.length() < 100);
                model.text += (char) c;
                return model.text.length();
            });
        }

        private String world() {
            StringBuilder s = new StringBuilder();
            int entries = 1 + random.nextInt(9);
            int added = 0;
            for (int i = 0; i < entries; i++) {
                s.append(i > 0 ? ";" : "");
                if (random.nextInt(2) == 0 || added < 2) {
                    s.append('t').append(Math.abs(size() % 10000));
                    added++;
                } else {
                    s.append('p').append(random.nextInt(Math.min(7, added + 1))).append(random.nextInt(added));
                    s.append(Math.abs(share() % 1002)).append(',').append(Math.abs(share() % 1002));
                }
            }
            return s.toString();
        }

        private String plan() {
            StringBuilder s = new StringBuilder();
            Integer[] digits = {0, 1, 2, 3, 4, 5, 6};
            for (int i = 0; i < 7; i++) {
                int j = random.nextInt(7);
                Integer d = digits[i];
                digits[i] = digits[j];
                digits[j] = d;
            }
            int n = model.now.sizes.size();
            Arrays.stream(digits).filter(d -> d < n || rarely()).forEach(d -> {
                if (random.nextInt(6) > 0) {
                    s.append(s.length() > 0 ? ">" : "").append(d);
                }
            });
            return s.toString();
        }

        private void oneSlot() {
            int slot = in(0, 1);
            if (random.nextInt(3) == 0) {
                check("restore(" + slot + ")", () -> program.restore(slot), () -> {
                    index(slot == 0 || slot == 1);
                    state(model.slots[slot] != null);
                    model.now = model.slots[slot].copy();
                    model.past.clear();
                    return model.now.weeks;
                });
            } else {
                check("save(" + slot + ")", () -> program.save(slot), () -> {
                    index(slot == 0 || slot == 1);
                    model.slots[slot] = model.now.copy();
                    return model.now.weeks;
                });
            }
        }
    }
}
