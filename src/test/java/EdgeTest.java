import java.lang.reflect.InvocationTargetException;
import java.lang.reflect.Method;
import java.lang.reflect.Modifier;
import java.util.ArrayList;
import java.util.HashMap;
import java.util.List;
import java.util.Map;

/**
 * The edges of the document: each sentence that names one has a test of its own, told behind that sentence.
 *
 * <p>Every call that throws, and every call that only asks, is done once more behind the changes before it on another
 * object, and all that can be seen of it (what there is, the text, the states that are remembered, the save slots) is
 * compared with an object that had only those changes: such a call must have changed nothing.
 */
public final class EdgeTest {
    private static final Class<?> INDEX = IndexOutOfBoundsException.class;
    private static final Class<?> ARGUMENT = IllegalArgumentException.class;
    private static final Class<?> STATE = IllegalStateException.class;
    private static final int NONE = -1;
    private static final int MOST_CALLS = 512;
    /** How many calls are made at most on one object to see a part of it. */
    private static final int MOST_SEEN = 270;

    private static int checked = 0;
    private static int wrong = 0;
    private static int sentences = 0;
    private static String sentence = "";

    public static void main(String[] args) {
        object();
        tablesAndPairs();
        rowsOfSets();
        plans();
        runsAndMemories();
        settings();
        texts();
        actionsAndUndo();
        exceptions();
        whatThereIs();
        actions();
        whatIsChosen();
        scripts();
        simulations();
        saveSlots();
        System.out.println("EdgeTest: " + sentences + " sentences, " + checked + " checks, " + wrong + " wrong");
        if (wrong != 0) {
            System.exit(1);
        }
    }

    // ---- what the tests are made of

    /** The sentence, or its part, that the checks behind it are for. */
    private static void sentence(String words) {
        sentence = words;
        sentences++;
    }

    private static void check(boolean ok, String otherwise) {
        checked++;
        if (!ok) {
            wrong++;
            System.out.println("\"" + sentence + "\": " + otherwise);
        }
    }

    /** A call told as a text, as "order(31, 1, 0)"; MIN and MAX are the least and the most of an argument's type. */
    private static final class Call {
        private static final Map<String, Method> METHODS = new HashMap<>();
        private static final Map<String, Call> KNOWN = new HashMap<>();

        static {
            for (Method m : SurprisedPlans.class.getDeclaredMethods()) {
                if (Modifier.isPublic(m.getModifiers())) {
                    METHODS.put(m.getName(), m);
                }
            }
        }

        private final Method method;
        private final Object[] arguments;

        private Call(String words) {
            int open = words.indexOf('(');
            method = METHODS.get(words.substring(0, open));
            String inside = words.substring(open + 1, words.length() - 1);
            String[] told = inside.isEmpty() ? new String[0] : inside.split(", ");
            arguments = new Object[told.length];
            for (int i = 0; i < told.length; i++) {
                arguments[i] = argument(method.getParameterTypes()[i], told[i]);
            }
        }

        static Call of(String words) {
            return KNOWN.computeIfAbsent(words, Call::new);
        }

        private static Object argument(Class<?> type, String told) {
            if (type == boolean.class) {
                return Boolean.valueOf(told);
            }
            if (type == long.class) {
                return told.equals("MIN") ? Long.MIN_VALUE : told.equals("MAX") ? Long.MAX_VALUE : Long.parseLong(told);
            }
            return told.equals("MIN") ? Integer.MIN_VALUE : told.equals("MAX") ? Integer.MAX_VALUE
                    : Integer.parseInt(told);
        }

        /** The number that it answers, or the name of the exception that it throws. */
        String on(SurprisedPlans plans) {
            try {
                return method.invoke(plans, arguments).toString();
            } catch (InvocationTargetException e) {
                return e.getCause().getClass().getSimpleName();
            } catch (IllegalAccessException e) {
                throw new AssertionError(e);
            }
        }

        /** Whether it may change anything when it throws nothing. */
        boolean changes() {
            return switch (method.getName()) {
                case "append", "clearText", "load", "add", "resize", "link", "drift", "run", "weeks", "set", "undo",
                    "save", "restore" -> true;
                default -> false;
            };
        }
    }

    private static boolean isNumber(String answer) {
        return answer.charAt(0) == '-' || Character.isDigit(answer.charAt(0));
    }

    /** An object of the program, and the calls that have changed it. */
    private static final class Plans {
        private final SurprisedPlans plans = new SurprisedPlans();
        private final List<String> changes = new ArrayList<>();
        private int calls;

        /** The call answers this. */
        Plans is(String call, long want) {
            answers(call, Long.toString(want));
            return this;
        }

        /** The call throws this. */
        Plans no(String call, Class<?> want) {
            answers(call, want.getSimpleName());
            return this;
        }

        private void answers(String call, String want) {
            String got = answer(call);
            check(got.equals(want), "behind " + changes + ", " + call + ": " + got + ", due is " + want);
            if (!isNumber(got) || !Call.of(call).changes()) {
                check(seen(changes, call).equals(seen(changes, null)), "behind " + changes + ", " + call
                        + " changed something");
            }
        }

        /** Does calls, which must not throw, for what they change. */
        Plans does(String... some) {
            for (String call : some) {
                String got = answer(call);
                check(isNumber(got), "behind " + changes + ", " + call + ": " + got);
            }
            return this;
        }

        Plans text(String text) {
            if (text.length() > 0) {
                does("clearText()");
            }
            for (int i = 0; i < text.length(); i++) {
                does("append(" + (int) text.charAt(i) + ")");
            }
            return this;
        }

        String answer(String call) {
            calls++;
            check(calls <= MOST_CALLS, "the test makes more than 512 calls");
            String got = Call.of(call).on(plans);
            if (isNumber(got) && Call.of(call).changes()) {
                changes.add(call);
            }
            return got;
        }
    }

    // ---- all that can be seen of an object

    private static final Map<List<String>, String> SEEN = new HashMap<>();

    /** What is seen behind changes and one more call (if any), each part on a new object. */
    private static String seen(List<String> changes, String more) {
        String known = more == null ? SEEN.get(changes) : null;
        if (known != null) {
            return known;
        }
        check(changes.size() + MOST_SEEN <= MOST_CALLS, "what is seen behind " + changes.size() + " calls is too much");
        StringBuilder s = new StringBuilder();
        seeWhatThereIs(done(changes, more), s);
        seeText(done(changes, more), s);
        seeRemembered(done(changes, more), s);
        seeSlot(0, done(changes, more), s);
        seeSlot(1, done(changes, more), s);
        if (more == null) {
            SEEN.clear();
            SEEN.put(new ArrayList<>(changes), s.toString());
        }
        return s.toString();
    }

    private static SurprisedPlans done(List<String> changes, String more) {
        SurprisedPlans plans = new SurprisedPlans();
        for (String call : changes) {
            Call.of(call).on(plans);
        }
        if (more != null) {
            Call.of(more).on(plans);
        }
        return plans;
    }

    private static void see(SurprisedPlans plans, StringBuilder s, String name, int... most) {
        int[] at = new int[most.length];
        while (true) {
            StringBuilder call = new StringBuilder(name).append('(');
            for (int i = 0; i < at.length; i++) {
                call.append(i > 0 ? ", " : "").append(at[i]);
            }
            s.append(Call.of(call.append(')').toString()).on(plans)).append(' ');
            int i = at.length - 1;
            while (i >= 0 && at[i] == most[i]) {
                at[i] = 0;
                i--;
            }
            if (i < 0) {
                return;
            }
            at[i]++;
        }
    }

    private static void seeNumbers(SurprisedPlans plans, StringBuilder s) {
        see(plans, s, "about", 5);
        see(plans, s, "sum", 3);
        see(plans, s, "setting", 2);
    }

    private static void seeWhatThereIs(SurprisedPlans plans, StringBuilder s) {
        seeNumbers(plans, s);
        see(plans, s, "size", 6);
        see(plans, s, "surprise", 9, 3);
        int tables = plans.about(0);
        for (int high = 1; high < tables; high++) {
            for (int low = 0; low < high; low++) {
                for (int what = 0; what <= 4; what++) {
                    s.append(plans.pair(low, high, what)).append(' ');
                }
            }
        }
        s.append(plans.worst()).append('\n');
    }

    private static void seeText(SurprisedPlans plans, StringBuilder s) {
        for (String call : new String[] {"errorPosition(true)", "errorPosition(false)", "costOfText(1)", "load()"}) {
            s.append(Call.of(call).on(plans)).append(' ');
        }
        see(plans, s, "about", 1);
        see(plans, s, "size", 6);
        s.append(Call.of("pair(0, 1, 0)").on(plans)).append(' ');
        s.append(Call.of("clearText()").on(plans)).append('\n');
    }

    private static void seeRemembered(SurprisedPlans plans, StringBuilder s) {
        String left = Call.of("undo()").on(plans);
        for (int i = 0; i < 20 && isNumber(left); i++) {
            s.append(left).append(": ");
            seeNumbers(plans, s);
            see(plans, s, "size", 1);
            s.append(Call.of("pair(0, 1, 1)").on(plans)).append(' ');
            s.append(Call.of("pair(0, 1, 3)").on(plans)).append('\n');
            left = Call.of("undo()").on(plans);
        }
        s.append(left).append('\n');
    }

    private static void seeSlot(int slot, SurprisedPlans plans, StringBuilder s) {
        String weeks = Call.of("restore(" + slot + ")").on(plans);
        s.append(weeks).append(' ');
        if (isNumber(weeks)) {
            seeWhatThereIs(plans, s);
            s.append(Call.of("undo()").on(plans)).append('\n');
        }
    }

    // ---- worlds for the tests

    private static Plans made() {
        return new Plans();
    }

    private static Plans loaded(String world) {
        return made().text(world).is("load()", 0);
    }

    private static Plans tables(int... sizes) {
        Plans x = made();
        for (int size : sizes) {
            x.does("add(" + size + ")");
        }
        return x;
    }

    private static Plans seven() {
        return tables(10, 20, 30, 40, 50, 60, 70);
    }

    /** Two tables of 100 rows, and a pair guessed and true as told. */
    private static Plans two(int guess, int share) {
        return tables(100, 100).does("link(0, 1, " + guess + ", " + share + ")");
    }

    private static Plans linkAll(Plans x, int tables, int guess, int share) {
        for (int high = 1; high < tables; high++) {
            for (int low = 0; low < high; low++) {
                x.does("link(" + low + ", " + high + ", " + guess + ", " + share + ")");
            }
        }
        return x;
    }

    // ---- the object

    private static void object() {
        sentence("The constants: NONE = -1: There is no such result.");
        check(SurprisedPlans.NONE == -1, "NONE is " + SurprisedPlans.NONE);

        sentence("Creates a world without tables.");
        made().is("about(0)", 0).is("about(1)", 0).is("about(2)", 0).is("about(3)", 0).is("about(4)", 0)
                .is("about(5)", 0)
                .is("sum(0)", 0).is("sum(1)", 0).is("sum(2)", 0).is("sum(3)", 0)
                .is("setting(0)", 50).is("setting(1)", 10).is("setting(2)", 4)
                .is("surprise(0, 0)", NONE).is("surprise(9, 3)", NONE).is("worst()", NONE)
                .no("size(0)", INDEX).no("pair(0, 1, 0)", INDEX).no("run(1)", INDEX).no("matters(0, 1, 0)", INDEX)
                .no("undo()", STATE).no("restore(0)", STATE).no("restore(1)", STATE).no("load()", STATE)
                .is("rows(0, 0)", 1).is("order(0, 1, 0)", NONE).is("way(0, 1)", NONE).is("cost(0, 2)", 0)
                .is("errorPosition(true)", 0).is("errorPosition(false)", 0).is("clearText()", 0);

        sentence("An object is used for at most 512 calls after it has been made");
        Plans x = tables(1);
        for (int i = 2; i <= MOST_CALLS; i++) {
            x.does("resize(0, " + i + ")");
        }
        check(x.plans.size(0) == MOST_CALLS, "the 512th call did not do what it does");
        Plans y = linkAll(seven(), 7, 1, 1000).does("set(0, 1)", "set(1, 1)");
        for (int i = 1; i <= 20; i++) {
            y.does("run(127)");
        }
        y.is("about(5)", 420).is("pair(0, 6, 4)", 20);
    }

    // ---- TABLES AND PAIRS

    private static void tablesAndPairs() {
        sentence("There are at most 7 tables, numbered from 0 in the order in which they were added");
        Plans x = made().is("about(0)", 0);
        for (int t = 0; t < 7; t++) {
            x.no("size(" + t + ")", INDEX).is("add(" + (t + 11) + ")", t).is("about(0)", t + 1);
        }
        x.no("add(18)", STATE).no("size(7)", INDEX).is("about(0)", 7);
        for (int t = 0; t < 7; t++) {
            x.is("size(" + t + ")", t + 11);
        }

        sentence("each with a size, 1 to 9999 rows");
        made().no("add(0)", ARGUMENT).is("add(1)", 0).is("size(0)", 1).is("add(9999)", 1).is("size(1)", 9999)
                .no("add(10000)", ARGUMENT).no("add(-1)", ARGUMENT).no("add(MIN)", ARGUMENT).no("add(MAX)", ARGUMENT)
                .no("resize(0, 0)", ARGUMENT).is("resize(0, 9999)", 1).no("resize(0, 10000)", ARGUMENT)
                .is("resize(0, 1)", 9999).no("resize(0, MIN)", ARGUMENT).no("resize(0, MAX)", ARGUMENT)
                .is("size(0)", 1).is("about(0)", 2);

        sentence("A pair is two tables; told as a and b, in whatever order.");
        seven().is("link(6, 0, 300, 900)", 1).is("link(0, 1, 400, 401)", 2).is("link(1, 0, 500, 501)", 2)
                .is("link(5, 6, 700, 701)", 3).is("pair(0, 6, 0)", 300).is("pair(6, 0, 1)", 900)
                .is("pair(0, 1, 0)", 500).is("pair(1, 0, 1)", 501).is("pair(6, 5, 2)", 700).is("pair(5, 6, 2)", 700)
                .is("drift(0, 6, 800)", 900).is("drift(6, 0, 850)", 800).is("worst()", 6).is("run(127)", 1)
                .is("surprise(0, 0)", 6).is("pair(6, 0, 3)", 0).is("pair(0, 6, 4)", 1).is("pair(6, 0, 4)", 1)
                .is("runScript(1, 706000)", NONE).is("runScript(1, 760000)", NONE);

        seven().does("link(5, 6, 5, 500)", "run(96)").is("pair(5, 6, 2)", 500).is("pair(5, 6, 3)", 0).is("about(2)", 1)
                .is("drift(6, 5, 7)", 500).is("pair(5, 6, 1)", 7).is("rows(96, 1)", 2100).is("rows(96, 2)", 29)
                .is("weeks(4)", 1).is("pair(5, 6, 3)", 4).is("runScript(1, 756004)", NONE)
                .is("runScript(1, 765003)", 0).is("weeks(1)", 0).is("pair(5, 6, 2)", 5).is("run(96)", 0)
                .is("drift(5, 6, 900)", 7).is("run(96)", 1).is("link(6, 5, 8, 9)", 1).is("about(2)", 0)
                .is("pair(5, 6, 3)", NONE).is("pair(5, 6, 4)", 2);

        sentence("a guessed share and a true share, both in thousandths, 1 to 1000");
        tables(5, 5).no("link(0, 1, 0, 1)", ARGUMENT).no("link(0, 1, 1, 0)", ARGUMENT)
                .no("link(0, 1, 1001, 1000)", ARGUMENT).no("link(0, 1, 1000, 1001)", ARGUMENT)
                .no("link(0, 1, -1, 5)", ARGUMENT).no("link(0, 1, 5, -1)", ARGUMENT)
                .no("link(0, 1, MIN, 5)", ARGUMENT).no("link(0, 1, MAX, 5)", ARGUMENT)
                .no("link(0, 1, 5, MIN)", ARGUMENT).no("link(0, 1, 5, MAX)", ARGUMENT)
                .is("about(1)", 0).is("pair(0, 1, 0)", NONE)
                .is("link(0, 1, 1, 1000)", 1).is("pair(0, 1, 0)", 1).is("pair(0, 1, 1)", 1000)
                .is("link(0, 1, 1000, 1)", 1).is("pair(0, 1, 0)", 1000).is("pair(0, 1, 1)", 1);

        sentence("The believed share of a linked pair is its memory, if it has one, otherwise the guess.");
        two(500, 600).is("pair(0, 1, 2)", 500).is("run(1)", 0).is("pair(0, 1, 2)", 500).is("run(3)", 1)
                .is("pair(0, 1, 2)", 600).is("weeks(4)", 1).is("pair(0, 1, 2)", 600).is("weeks(1)", 0)
                .is("pair(0, 1, 2)", 500);

        sentence("A set of tables is told as a number with bit t set for the table t.");
        Plans y = seven();
        for (int t = 0; t < 7; t++) {
            y.is("rows(" + (1 << t) + ", 1)", 10 * (t + 1)).is("order(" + (1 << t) + ", 1, 0)", t);
        }
        y.is("rows(65, 1)", 700).is("rows(127, 1)", 50400000000L).no("rows(128, 1)", INDEX);
    }

    // ---- ROWS

    private static void rowsOfSets() {
        sentence("The empty set has 1 row.");
        made().is("rows(0, 0)", 1).is("rows(0, 1)", 1).is("rows(0, 2)", 1);
        seven().is("rows(0, 0)", 1).is("rows(0, 1)", 1).is("rows(0, 2)", 1);

        sentence("times its size, at most 1000000000000");
        tables(1000, 1000, 1000, 999).is("rows(15, 1)", 999000000000L).is("resize(3, 1000)", 999)
                .is("rows(15, 1)", 1000000000000L).is("resize(3, 1001)", 1000).is("rows(15, 1)", 1000000000000L)
                .is("resize(3, 9999)", 1001).is("rows(15, 0)", 1000000000000L).is("rows(15, 2)", 1000000000000L);
        linkAll(tables(9999, 9999, 9999, 9999, 9999, 9999, 9999), 7, 1000, 1000)
                .is("rows(7, 1)", 999700029999L).is("rows(15, 1)", 1000000000000L)
                .is("rows(127, 0)", 1000000000000L).is("rows(127, 2)", 1000000000000L);

        sentence("times its size, at most 1000000000000; then for each lower table");
        // 10^12 times 1000 is 10^12 again, ahead of the share: 10^9, and then 10^12, the fourth 10^12 by 500.
        tables(1000, 1000, 1000, 1000, 1000, 1000).does("link(3, 4, 1, 1)", "link(4, 5, 500, 1)")
                .is("rows(31, 0)", 1000000000L).is("rows(63, 0)", 500000000000L).is("rows(63, 2)", 1000000000L);

        sentence("times the share of the pair, divided by 1000, rounded down, at least 1");
        tables(1, 999).does("link(0, 1, 1, 2)").is("rows(3, 0)", 1).is("rows(3, 2)", 1)
                .is("resize(1, 1000)", 999).is("rows(3, 0)", 1).is("rows(3, 2)", 2)
                .is("resize(1, 1999)", 1000).is("rows(3, 0)", 1).is("rows(3, 2)", 3)
                .is("resize(1, 2000)", 1999).is("rows(3, 0)", 2).is("rows(3, 2)", 4)
                .is("resize(1, 1)", 2000).is("rows(3, 0)", 1).is("rows(3, 2)", 1)
                .does("link(0, 1, 1000, 999)").is("rows(3, 0)", 1).is("rows(3, 2)", 1)
                .is("resize(1, 9999)", 1).is("rows(3, 0)", 9999).is("rows(3, 2)", 9989);

        sentence("then for each lower table of the set, ascending, that is linked to it");
        // 1900, by 150: 285, by 700: 199; by 700 first it would be 1330, and then 199. 57, by 500: 28, by 250: 7.
        loaded("t10;t10;t19;p02150,150;p12700,700").is("rows(7, 0)", 199).is("rows(5, 0)", 28).is("rows(6, 0)", 133)
                .is("rows(3, 0)", 100);
        // 2, by 300: 0, so 1, by 600: 0, so 1. By 600 first: 1, by 300: 1. 5, by 999: 4, by 250: 1; 5, by 250: 1.
        loaded("t1;t1;t5;p02999,250;p12250,999").is("rows(7, 0)", 1).is("rows(7, 2)", 1);
        // 7, by 600: 4, by 250: 1; by 250 first: 1, by 600: 0, so 1. 9, by 900: 8, by 500: 4; by 500: 4, by 900: 3.
        loaded("t1;t1;t9;p02900,500;p12500,900").is("rows(7, 0)", 4).is("rows(7, 2)", 3);
        // The lower table's pairs come first: 9 by 900 is 8, times 1; by 500 it is 4.
        loaded("t1;t9;t1;p01900,500;p12500,900").is("rows(7, 0)", 4).is("rows(7, 2)", 3);

        sentence("rows: kind: 0: by the guessed shares; 1: by the believed ones; 2: by the true ones");
        two(500, 900).does("set(1, 5)", "run(3)").is("rows(3, 0)", 5000).is("rows(3, 1)", 7000).is("rows(3, 2)", 9000);
    }

    // ---- PLANS

    private static void plans() {
        sentence("The first table is taken as it is.");
        seven().is("cost(64, 0)", 0).is("cost(64, 1)", 0).is("cost(64, 2)", 0).is("order(64, 1, 0)", 6)
                .is("order(64, 1, 1)", NONE).is("way(64, 1)", NONE).text("6").is("costOfText(0)", 0);

        sentence("it takes the cheaper one, of like ones loops");
        // 6 * 6 = 3 * (6 + 6); 4 * 12 = 3 * (4 + 12); 6 * 7 = 42 and 3 * 13 = 39; 6 * 5 = 30 and 3 * 11 = 33.
        tables(6, 6, 7, 5, 4, 12, 13)
                .is("way(3, 1)", 0).is("cost(3, 0)", 36 + 36)
                .is("way(5, 1)", 1).is("cost(5, 0)", 39 + 42)
                .is("way(9, 1)", 0).is("cost(9, 0)", 30 + 30)
                .is("way(48, 1)", 0).is("cost(48, 0)", 48 + 48)
                .is("way(80, 1)", 1).is("cost(80, 0)", 51 + 52)
                .text("1>0").is("costOfText(1)", 72).text("2>0").is("costOfText(1)", 81).text("6>4")
                .is("costOfText(1)", 103);

        sentence("by loops, which costs rows(S) * (the size of t); or by a list, which costs 3 * (rows(S) + (the size of t))");
        tables(1, 1).is("cost(3, 0)", 1 + 1).is("way(3, 1)", 0);
        tables(1, 9999).is("cost(3, 0)", 9999 + 9999).is("way(3, 1)", 0);
        tables(3, 9999).is("cost(3, 0)", 29997 + 29997).is("way(3, 1)", 0);
        tables(4, 9999).is("cost(3, 0)", 30009 + 39996).is("way(3, 1)", 1);
        tables(9999, 9999).is("cost(3, 0)", 59994 + 99980001).is("way(3, 1)", 1);

        sentence("and besides it costs rows(S with t)");
        loaded("t5;t4;p01100,50").is("cost(3, 0)", 20 + 2).is("cost(3, 1)", 20 + 1);

        sentence("each step at most 1000000000000000");
        // Behind two steps by lists, loops are chosen, as 1 row is believed. In truth the fourth step costs
        // 999 * 10^9 * 1000 by loops and 10^12 rows: 10^15 exactly.
        linkAll(tables(999, 1000, 1000, 1000, 1000), 5, 1, 1000)
                .is("way(31, 1)", 1).is("way(31, 2)", 1).is("way(31, 3)", 0).is("way(31, 4)", 0)
                .is("order(31, 1, 0)", 0).is("order(31, 1, 4)", 4)
                .is("cost(31, 1)", 5997 + 999000 + 3000000 + 999000000 + 1998000000000L + 1000000000000000L)
                .is("cost(15, 1)", 5997 + 999000 + 3000000 + 999000000 + 1998000000000L);
        // Here it costs 10^12 * 1000 by loops and 10^12 by 1 four times, which is 1 row: one too many.
        linkAll(tables(1000, 1000, 1000, 1000, 1000), 5, 1, 1000)
                .does("link(0, 4, 1, 1)", "link(1, 4, 1, 1)", "link(2, 4, 1, 1)", "link(3, 4, 1, 1)")
                .is("rows(31, 2)", 1).is("order(31, 1, 4)", 4)
                .is("cost(31, 1)", 6000 + 1000000 + 3003000 + 1000000000 + 2000000000000L + 1000000000000000L);
        // The sizes of 9999 are far beyond: three steps at most, of six.
        long first = 59994L + 99980001L + 3 * (99980001L + 9999) + 999700029999L
                + 3 * (999700029999L + 9999) + 1000000000000L;
        linkAll(tables(9999, 9999, 9999, 9999, 9999, 9999, 9999), 7, 1, 1000)
                .is("cost(127, 1)", first + 3 * 1000000000000000L).is("run(127)", 21)
                .is("sum(0)", first + 3 * 1000000000000000L).is("sum(2)", first + 3 * 1000000000000000L);

        sentence("The plan that is chosen for a set is the one that costs least by the believed shares");
        Plans least = loaded("t100;t100;t100;p015,900;p12500,10").is("cost(7, 0)", 600 + 50 + 450 + 2500)
                .is("run(7)", 2)
                .is("cost(7, 0)", 600 + 100 + 600 + 9000);
        for (String plan : new String[] {"0>1>2", "0>2>1", "1>0>2", "2>0>1"}) {
            least.text(plan);
            check(Long.parseLong(least.answer("costOfText(1)")) > 10300, plan + " costs as little");
        }
        least.text("1>2>0").is("costOfText(1)", 10300).text("2>1>0").is("costOfText(1)", 10300);

        sentence("of several the one whose first table is the lowest, then the second one, and so on");
        order(tables(5, 5, 5, 5, 5, 5, 5), 127, 1, 0, 1, 2, 3, 4, 5, 6);
        order(tables(9, 8), 3, 1, 0, 1);
        order(tables(8, 9), 3, 1, 0, 1);
        order(tables(100, 9, 8), 7, 1, 1, 2, 0);
        // 665 is what 1203, 1230, 1320, 2103, 2130 and 3120 cost, and no other order is cheaper.
        Plans x = loaded("t50;t2;t5;t5;p02100,100").is("cost(15, 0)", 665);
        for (String plan : new String[] {"1>2>0>3", "1>2>3>0", "1>3>2>0", "2>1>0>3", "2>1>3>0", "3>1>2>0"}) {
            x.text(plan).is("costOfText(1)", 665);
        }
        order(x, 15, 0, 1, 2, 0, 3);
        order(x, 15, 1, 1, 2, 0, 3);
        order(x, 15, 2, 1, 2, 0, 3);
    }

    private static void order(Plans x, int set, int kind, int... want) {
        for (int k = 0; k < want.length; k++) {
            x.is("order(" + set + ", " + kind + ", " + k + ")", want[k]);
        }
        x.is("order(" + set + ", " + kind + ", " + want.length + ")", NONE);
    }

    // ---- RUNS AND MEMORIES

    private static void runsAndMemories() {
        sentence("It costs what it costs by the true shares, with the ways of joining by which it was chosen.");
        // 1 row is believed behind the first two, so loops are chosen; in truth there are 42.
        loaded("t6;t7;t9999;p011,1000").is("cost(7, 1)", 39 + 42 + 42 * 9999 + 42 * 9999).is("run(7)", 1)
                .is("sum(2)", 39 + 42 + 42 * 9999 + 42 * 9999);

        sentence("less what the plan that costs least by the true shares costs (with ways of joining by these)");
        loaded("t6;t7;t9999;p011,1000").is("cost(7, 2)", 42 * 9999 - 3 * (42 + 9999)).is("run(7)", 1)
                .is("sum(3)", 42 * 9999 - 3 * (42 + 9999)).is("cost(7, 2)", 0).is("run(7)", 0).is("sum(3)", 0);

        sentence("Then for each linked pair of the set, ascending (by the lower table, then by the higher one)");
        Plans x = linkAll(tables(1, 1, 1, 1, 1), 5, 1, 1000).does("drift(1, 3, 1)").is("run(31)", 9);
        int[] pairs = {34, 24, 23, 14, 12, 4, 3, 2, 1, NONE};
        for (int k = 0; k < pairs.length; k++) {
            x.is("surprise(" + k + ", 0)", pairs[k]);
        }
        x.does("undo()").is("run(21)", 3).is("surprise(0, 0)", 24).is("surprise(1, 0)", 4).is("surprise(2, 0)", 2)
                .is("surprise(3, 0)", NONE);

        sentence("if the difference of its believed share and the true one is at least the threshold, it is a surprise");
        surprises(500, 549, 50, 0);
        surprises(500, 550, 50, 1);
        surprises(500, 551, 50, 1);
        surprises(500, 451, 50, 0);
        surprises(500, 450, 50, 1);
        surprises(500, 449, 50, 1);
        surprises(500, 500, 1, 0);
        surprises(500, 501, 1, 1);
        surprises(500, 499, 1, 1);
        surprises(1, 1000, 1000, 0);
        surprises(1, 1000, 999, 1);
        surprises(1000, 1, 999, 1);
        surprises(1000, 2, 999, 0);

        sentence("(the difference * the trust / 10, rounded down, at least 1)");
        moves(500, 509, 1, 501);
        moves(500, 510, 1, 501);
        moves(500, 519, 1, 501);
        moves(500, 520, 1, 502);
        moves(500, 491, 1, 499);
        moves(500, 490, 1, 499);
        moves(500, 481, 1, 499);
        moves(500, 480, 1, 498);
        moves(500, 501, 9, 501);
        moves(500, 499, 9, 499);
        moves(500, 502, 9, 501);
        moves(1, 1000, 10, 1000);
        moves(1000, 1, 10, 1);
        moves(1, 1000, 9, 900);
        moves(1000, 1, 9, 101);
        moves(999, 1000, 10, 1000);
        moves(2, 1, 1, 1);

        sentence("the pair gets a memory that is 0 weeks old: its believed share, moved");
        // From 500 to 700, and from there again: by what was believed, not by the guess.
        two(500, 900).does("set(1, 5)").is("run(3)", 1).is("pair(0, 1, 2)", 700).is("pair(0, 1, 3)", 0)
                .is("weeks(3)", 1)
                .is("pair(0, 1, 3)", 3).is("run(3)", 1).is("pair(0, 1, 2)", 800).is("pair(0, 1, 3)", 0)
                .is("pair(0, 1, 0)", 500);

        sentence("otherwise, if it has a memory, that is 0 weeks old again");
        two(500, 600).is("run(3)", 1).is("weeks(4)", 1).is("drift(0, 1, 649)", 600).is("pair(0, 1, 3)", 4)
                .is("run(3)", 0)
                .is("pair(0, 1, 3)", 0).is("pair(0, 1, 2)", 600).is("weeks(4)", 1).is("run(2)", 0)
                .is("pair(0, 1, 3)", 4)
                .is("weeks(1)", 0);
        two(500, 549).is("run(3)", 0).is("pair(0, 1, 3)", NONE).is("about(2)", 0);
        // A pair that is not in the set, or has but one table in it, gets no younger.
        linkAll(tables(1, 1, 1), 3, 1, 1000).is("run(7)", 3).is("weeks(2)", 3).is("run(3)", 0).is("pair(0, 1, 3)", 0)
                .is("pair(0, 2, 3)", 2).is("pair(1, 2, 3)", 2);

        sentence("In a week each memory gets older by 1; those that are then older than the horizon are forgotten.");
        two(1, 900).is("run(3)", 1).is("pair(0, 1, 3)", 0).is("weeks(1)", 1).is("pair(0, 1, 3)", 1).is("weeks(3)", 1)
                .is("pair(0, 1, 3)", 4).is("about(2)", 1).is("weeks(1)", 0).is("pair(0, 1, 3)", NONE).is("about(2)", 0);
        two(1, 900).is("run(3)", 1).is("weeks(5)", 0);
        two(1, 900).does("set(2, 0)").is("run(3)", 1).is("about(2)", 1).is("pair(0, 1, 3)", 0).is("weeks(1)", 0);
        two(1, 900).does("set(2, 20)").is("run(3)", 1).is("weeks(20)", 1).is("pair(0, 1, 3)", 20).is("weeks(1)", 0);
    }

    private static void surprises(int guess, int share, int threshold, int want) {
        two(guess, share).does("set(0, " + threshold + ")").is("run(3)", want).is("about(5)", want)
                .is("about(2)", want).is("pair(0, 1, 4)", want).is("pair(0, 1, 3)", want - 1)
                .is("pair(0, 1, 2)", want == 1 ? share : guess).is("surprise(0, 0)", want == 1 ? 1 : NONE);
    }

    private static void moves(int guess, int share, int trust, int want) {
        two(guess, share).does("set(0, 1)", "set(1, " + trust + ")").is("run(3)", 1).is("pair(0, 1, 2)", want)
                .is("pair(0, 1, 0)", guess).is("surprise(0, 1)", guess).is("surprise(0, 2)", share);
    }

    private static void settings() {
        sentence("There are settings: 0: the threshold, 1 to 1000, at first 50");
        made().is("setting(0)", 50).no("set(0, 0)", ARGUMENT).is("set(0, 1)", 50).is("setting(0)", 1)
                .no("set(0, 1001)", ARGUMENT).is("set(0, 1000)", 1).is("setting(0)", 1000)
                .no("set(0, -1)", ARGUMENT).no("set(0, MIN)", ARGUMENT).no("set(0, MAX)", ARGUMENT);

        sentence("1: the trust, 1 to 10, at first 10");
        made().is("setting(1)", 10).no("set(1, 0)", ARGUMENT).is("set(1, 1)", 10).is("setting(1)", 1)
                .no("set(1, 11)", ARGUMENT).is("set(1, 10)", 1).is("setting(1)", 10)
                .no("set(1, -1)", ARGUMENT).no("set(1, MIN)", ARGUMENT).no("set(1, MAX)", ARGUMENT);

        sentence("2: the horizon, 0 to 20, at first 4");
        made().is("setting(2)", 4).no("set(2, -1)", ARGUMENT).is("set(2, 0)", 4).is("setting(2)", 0)
                .no("set(2, 21)", ARGUMENT).is("set(2, 20)", 0).is("setting(2)", 20)
                .no("set(2, MIN)", ARGUMENT).no("set(2, MAX)", ARGUMENT);

        sentence("set: Throws IllegalArgumentException if what or v is out of range");
        made().no("set(-1, 5)", ARGUMENT).no("set(3, 5)", ARGUMENT).no("set(MIN, 5)", ARGUMENT)
                .no("set(MAX, 5)", ARGUMENT).no("set(3, MAX)", ARGUMENT).is("setting(0)", 50).is("setting(1)", 10)
                .is("setting(2)", 4);

        sentence("setting: Throws IllegalArgumentException if what is out of range");
        made().no("setting(-1)", ARGUMENT).no("setting(3)", ARGUMENT).no("setting(MIN)", ARGUMENT)
                .no("setting(MAX)", ARGUMENT);

        sentence("(Memories that are older than a new horizon are forgotten with the next week.)");
        two(1, 900).is("run(3)", 1).is("weeks(3)", 1).is("set(2, 0)", 4).is("about(2)", 1).is("pair(0, 1, 3)", 3)
                .is("pair(0, 1, 2)", 900).is("weeks(1)", 0).is("about(2)", 0);
        two(1, 900).is("run(3)", 1).is("weeks(4)", 1).is("set(2, 5)", 4).is("weeks(1)", 1).is("pair(0, 1, 3)", 5)
                .is("weeks(1)", 0);
        // A run ahead of that week makes the memory young again, and it is kept as long as the new horizon tells.
        two(1, 900).is("run(3)", 1).is("weeks(4)", 1).is("set(2, 1)", 4).is("run(3)", 0).is("weeks(1)", 1)
                .is("weeks(1)", 0);
    }

    // ---- TEXT

    private static void texts() {
        sentence("append: character code, 0 to 255");
        made().no("append(-1)", ARGUMENT).is("append(0)", 1).is("append(255)", 2).no("append(256)", ARGUMENT)
                .no("append(MIN)", ARGUMENT).no("append(MAX)", ARGUMENT).no("append(65652)", ARGUMENT)
                .is("append(1)", 3).is("append(254)", 4).is("clearText()", 4);

        sentence("The object has a text buffer of at most 100 characters.");
        Plans full = made();
        for (int length = 1; length <= 100; length++) {
            full.is("append(48)", length);
        }
        full.no("append(48)", STATE).no("append(0)", STATE).is("clearText()", 100).is("clearText()", 0)
                .is("append(48)", 1).is("errorPosition(true)", NONE);

        sentence("append: Throws IllegalStateException if the text already has 100 characters");
        Plans nearly = made().text("t1234;".repeat(16) + "t99").is("append(57)", 100).no("append(57)", STATE)
                .is("errorPosition(false)", NONE).is("load()", 10).no("append(57)", STATE);
        nearly.is("clearText()", 100).is("append(57)", 1);

        sentence("clearText: Returns the previous length of the text.");
        made().is("clearText()", 0).is("append(49)", 1).is("clearText()", 1).is("clearText()", 0)
                .text("0>1").is("errorPosition(true)", NONE).is("clearText()", 3).is("errorPosition(true)", 0)
                .is("errorPosition(false)", 0);

        sentence("A world as a text is one or more entries with ; between them");
        worlds("", 0, "t1", NONE, "t1;", 3, ";", 0, "t1;;t1", 3, ";t1", 0, "t1;t1", NONE, "t1t1", 2, "t1,t1", 2,
                "p011,1;t1;p011,1", NONE, "t1; t1", 3, " t1", 0, "t1 ", 2, "x", 0, "T1", 0, "P011,1", 0, "0", 0,
                "\0", 0, "\u00ff", 0, "t1\u00bbt1", 2);

        sentence("t and a size (a table is added)");
        worlds("t", 1, "t;", 1, "t1", NONE, "t9", NONE, "t9999", NONE, "t99999", 5, "t10000", 5, "t1000", NONE, "ta", 1,
                "t/", 1, "t:", 1, "t1:", 2, "t1/", 2, "t-1", 1, "t+1", 1, "t1.", 2);

        sentence("p, two digits for tables (0 to 6, not the same ones), a guess, and, behind a comma, a true share");
        worlds("p", 1, "p0", 2, "p6", 2, "p7", 1, "p/", 1, "p06", 3, "p60", 3, "p07", 2, "p0/", 2, "p00", 2, "p66", 2,
                "p0;", 2, "p;", 1, "p061", 4, "p061,", 5, "p061,1", NONE, "p06,1", 3, "p06;", 3, "p061;", 4,
                "p061 ,", 4,
                "p061,1,", 6, "p061,,", 5, "p061,;", 5, "p061.1", 4, "p651000,1000", NONE, "p651,1t", 6,
                "p0611,", 6, "p06111,11", NONE);

        sentence("Numbers are in their ranges and have no zeros ahead.");
        worlds("t0", 1, "t01", 1, "t0;", 1, "p060", 3, "p0601,1", 3, "p061,0", 5, "p061,01", 5, "t10", NONE,
                "p06100,100", NONE, "p0610,10", NONE);

        sentence("(a digit is not allowed if no number in its range begins with it and those before it)");
        worlds("t9999;", 6, "t99990", 5, "t12345", 5, "p06999,999", NONE, "p061000,1000", NONE, "p061001,1", 6,
                "p069990,1", 6, "p061100,1", 6, "p062000,1", 6, "p061010,1", 6, "p0610000,1", 7, "p061,1001", 8,
                "p061,2000", 8, "p061,9999", 8, "p061,1100", 8, "p061,1010", 8, "p061,10000", 9, "p061,1000", NONE,
                "p061,999", NONE, "p061,9990", 8);

        sentence("if the text ends too soon, it is the length of the text");
        worlds("t1;p", 4, "t1;p0", 5, "t1;p01", 6, "t1;p011", 7, "t1;p011,", 8, "t1;t", 4);
        String most = "t1234;".repeat(16);
        worlds(most + "t999", NONE, most + "t99;", 100, most + "t9;t", 100, most + "t99x", 99, most + "t99\0", 99);
        errors(true, "", 0, "0>", 2, "6>5>4>3>2>1>", 12);

        sentence("A plan as a text is one or more digits for tables (0 to 6) with > between them");
        errors(true, "", 0, "0", NONE, "6", NONE, "7", 0, "/", 0, "9", 0, ">", 0, "0>", 2, "0>>", 2, ">0", 0, "01", 1,
                "0>1", NONE, "0>7", 2, "0>/", 2, "0;1", 1, "0,1", 1, "0<1", 1, "0?1", 1, "0 >1", 1, "t1", 0, " 0", 0,
                "0>6", NONE, "0>6>", 4, "0\0", 1, "0\u00be1", 1);

        sentence("none of them twice (so behind seven of them > is not allowed)");
        errors(true, "0>0", 2, "6>6", 2, "0>1>0", 4, "0>1>1", 4, "0>1>2>3>4>5>0", 12, "0>1>2>3>4>5>5", 12,
                "0>1>2>3>4>5", NONE, "0>1>2>3>4>5>", 12, "0>1>2>3>4>5>6", NONE, "6>5>4>3>2>1>0", NONE,
                "0>1>2>3>4>5>6>", 13, "0>1>2>3>4>5>6>0", 13, "0>1>2>3>4>5>60", 13, "6>0>6", 4);

        sentence("Whether tables are there does not matter for it.");
        made().text("p561,1").is("errorPosition(false)", NONE).text("6>5").is("errorPosition(true)", NONE);
        tables(1).text("p561,1;t1").is("errorPosition(false)", NONE).text("0>6").is("errorPosition(true)", NONE);
        seven().text("t1").is("errorPosition(false)", NONE);

        sentence("errorPosition: Returns the error position of the text; NONE if it is a plan, or a world.");
        made().is("errorPosition(true)", 0).is("errorPosition(false)", 0).text("0").is("errorPosition(true)", NONE)
                .is("errorPosition(false)", 0).text("t1").is("errorPosition(true)", 0).is("errorPosition(false)", NONE)
                .does("append(59)").is("errorPosition(false)", 3).does("append(116)").is("errorPosition(false)", 4)
                .does("append(50)").is("errorPosition(false)", NONE).does("append(120)").is("errorPosition(false)", 5)
                .does("append(50)").is("errorPosition(false)", 5);

        sentence("errorPosition: whether it is checked as a plan, or as a world");
        made().text("t1").is("errorPosition(false)", NONE).is("errorPosition(true)", 0).text("1>2")
                .is("errorPosition(true)", NONE).is("errorPosition(false)", 0).is("errorPosition(true)", NONE);

        loads();
    }

    private static void worlds(Object... textsAndErrors) {
        errors(false, textsAndErrors);
    }

    private static void errors(boolean plan, Object... textsAndErrors) {
        for (int i = 0; i < textsAndErrors.length; i += 2) {
            made().text((String) textsAndErrors[i]).is("errorPosition(" + plan + ")", (Integer) textsAndErrors[i + 1]);
        }
    }

    private static void loads() {
        sentence("those that cannot be done (an eighth table, pairs of tables that are not there yet) are left out");
        made().text("t1;t2;t3;t4;t5;t6;t7").is("load()", 0).is("about(0)", 7).is("size(6)", 7)
                .text("t1;t2;t3;t4;t5;t6;t7;t8").is("load()", 1).is("about(0)", 7).is("size(0)", 1).is("size(6)", 7)
                .text("t1;t2;t3;t4;t5;t6;t7;t8;t9;p561,2").is("load()", 2).is("about(0)", 7).is("pair(5, 6, 1)", 2);
        made().text("p011,1").is("load()", 1).is("about(0)", 0).is("about(1)", 0);
        made().text("t1;p011,1").is("load()", 1).is("about(0)", 1);
        made().text("t1;p101,1;t1").is("load()", 1).is("about(0)", 2).is("about(1)", 0);
        made().text("t1;t1;p011,1").is("load()", 0).is("about(1)", 1);
        made().text("t1;t1;p021,1;p203,3;t1;p024,5;p207,8").is("load()", 2).is("about(1)", 1).is("pair(0, 2, 0)", 7)
                .is("pair(0, 2, 1)", 8);
        made().text("t1;t1;t1;t1;t1;t1;p561,1;p651,1;t1;p56999,1000").is("load()", 2).is("about(1)", 1)
                .is("pair(5, 6, 0)", 999).is("pair(5, 6, 1)", 1000);

        sentence("load: Returns the number of entries that are left out.");
        made().text("p011,1;p011,1;p011,1;t1;t1;p011,1").is("load()", 3).is("about(0)", 2).is("about(1)", 1);
        made().text("t1;".repeat(32) + "t1").is("load()", 26).is("about(0)", 7).is("clearText()", 98);
        made().text("p011,1;".repeat(13) + "p011,1").is("load()", 14).is("about(0)", 0);

        sentence("load: Throws IllegalStateException if the text is not a world");
        Plans x = two(500, 900).does("run(3)", "save(1)", "weeks(2)", "save(0)", "weeks(1)");
        x.no("load()", STATE).text("t1;").no("load()", STATE).text("0>1").no("load()", STATE).text("t10000")
                .no("load()", STATE).text("p001,1").no("load()", STATE).text("t1;t1;p011,1001").no("load()", STATE);
        x.is("clearText()", 15).no("load()", STATE).is("about(0)", 2).is("about(3)", 3).is("about(2)", 1)
                .is("undo()", 5).is("about(3)", 2).is("restore(1)", 0).is("about(5)", 1).is("restore(0)", 2);
        Plans full = made().text("t1234;".repeat(16) + "t99;").no("load()", STATE).is("clearText()", 100);
        full.text("t1234;".repeat(16) + "t999").is("load()", 10).is("about(0)", 7).is("size(6)", 1234)
                .is("clearText()", 100);

        sentence("Makes everything as in a new object");
        Plans used = linkAll(tables(7, 8, 9), 3, 1, 90).does("set(0, 7)", "set(1, 6)", "set(2, 5)", "run(7)",
                "weeks(2)", "run(3)").text("t3;t4");
        used.is("load()", 0).is("about(0)", 2).is("about(1)", 0).is("about(2)", 0).is("about(3)", 0).is("about(4)", 0)
                .is("about(5)", 0).is("sum(0)", 0).is("sum(1)", 0).is("sum(2)", 0).is("sum(3)", 0).is("setting(0)", 50)
                .is("setting(1)", 10).is("setting(2)", 4).is("surprise(0, 0)", NONE).is("size(0)", 3).is("size(1)", 4)
                .no("size(2)", INDEX).is("pair(0, 1, 4)", NONE).is("rows(3, 0)", 12).is("rows(3, 1)", 12)
                .is("rows(3, 2)", 12).is("cost(3, 1)", 24).is("link(0, 1, 1, 900)", 1).is("pair(0, 1, 4)", 0)
                .is("pair(0, 1, 3)", NONE).is("run(3)", 1).is("surprise(0, 3)", 0).is("surprise(1, 0)", NONE);

        sentence("Forgets all remembered states, and empties both save slots. Keeps the text.");
        Plans y = tables(1).does("save(0)", "save(1)", "resize(0, 2)").text("t5").is("load()", 0).no("undo()", STATE)
                .no("restore(0)", STATE).no("restore(1)", STATE).is("size(0)", 5);
        y.is("load()", 0).is("about(0)", 1).is("save(1)", 0).no("restore(0)", STATE).is("restore(1)", 0)
                .is("load()", 0).no("restore(1)", STATE).is("clearText()", 2);
    }

    // ---- ACTIONS AND UNDO

    private static void actionsAndUndo() {
        sentence("the state, which consists of everything but the text and the save slots");
        Plans x = two(500, 900).does("set(0, 60)", "run(3)", "weeks(1)").text("1>0").is("save(1)", 1).is("undo()", 5)
                .is("about(3)", 0).is("about(2)", 1).is("undo()", 4).is("about(2)", 0).is("about(4)", 0)
                .is("about(5)", 0)
                .is("sum(0)", 0).is("surprise(0, 0)", NONE).is("pair(0, 1, 4)", 0).is("setting(0)", 60).is("undo()", 3)
                .is("setting(0)", 50).is("undo()", 2).is("about(1)", 0).is("undo()", 1).is("about(0)", 1)
                .is("undo()", 0).is("about(0)", 0).no("undo()", STATE);
        x.is("errorPosition(true)", NONE).is("clearText()", 3).no("restore(0)", STATE).is("restore(1)", 1)
                .is("about(5)", 1).is("setting(0)", 60);
        // A text that grew behind the action stays as it is, and so does one that was emptied.
        tables(1).text("t1").is("undo()", 0).is("clearText()", 2).does("add(1)").is("undo()", 0).is("clearText()", 0);

        sentence("Each call of one of them that does not throw an exception is an action, also if nothing becomes different");
        Plans same = two(500, 500);
        for (String call : new String[] {"resize(1, 100)", "link(0, 1, 500, 500)", "drift(0, 1, 500)", "set(0, 50)",
            "set(1, 10)", "set(2, 4)"}) {
            same.does(call).is("undo()", 3).no("add(0)", ARGUMENT);
        }
        same.does("run(1)").is("undo()", 3).is("about(4)", 0).does("weeks(1)").is("undo()", 3).is("about(3)", 0)
                .does("add(1)").is("undo()", 3).is("about(0)", 2);

        sentence("Before each action, the state is remembered.");
        Plans each = loaded("t5;t5;p01500,900").does("add(7)").is("undo()", 0).is("about(0)", 2)
                .does("resize(1, 9)").is("undo()", 0).is("size(1)", 5)
                .does("link(0, 1, 5, 5)").is("undo()", 0).is("pair(0, 1, 0)", 500).is("pair(0, 1, 1)", 900)
                .does("drift(0, 1, 5)").is("undo()", 0).is("pair(0, 1, 1)", 900)
                .does("run(3)").is("undo()", 0).is("about(4)", 0).is("about(2)", 0)
                .does("weeks(5)").is("undo()", 0).is("about(3)", 0)
                .does("set(2, 5)").is("undo()", 0).is("setting(2)", 4).no("undo()", STATE);
        // A memory that is forgotten, by a link or by weeks, is there again.
        each.does("run(3)", "link(0, 1, 5, 5)").is("about(2)", 0).is("undo()", 1).is("pair(0, 1, 2)", 900)
                .does("weeks(3)", "weeks(2)").is("about(2)", 0).is("undo()", 2).is("pair(0, 1, 3)", 3)
                .is("undo()", 1).is("pair(0, 1, 3)", 0);

        sentence("(undo is none)");
        loaded("t1").does("resize(0, 2)", "resize(0, 3)").is("undo()", 1).is("size(0)", 2).is("undo()", 0)
                .is("size(0)", 1).no("undo()", STATE).is("size(0)", 1);

        sentence("At most 14 states are remembered; when one more is remembered, the oldest one is forgotten.");
        for (int actions : new int[] {1, 2, 12, 13, 14, 15, 16, 27, 28, 29, 30, 43}) {
            Plans ring = loaded("t9999");
            for (int i = 1; i <= actions; i++) {
                ring.does("resize(0, " + i + ")");
            }
            takeBack(ring, Math.min(14, actions), actions - 1, 9999);
        }

        sentence("undo: Returns how many states are still remembered.");
        Plans y = loaded("t9999");
        int size = 0;
        for (int round = 0; round < 5; round++) {
            // 9 more, and 4 taken back, so that the ring goes round where some were taken back.
            for (int i = 0; i < 9; i++) {
                size++;
                y.does("resize(0, " + size + ")");
            }
            int remembered = Math.min(14, 5 * round + 9);
            for (int i = 1; i <= 4; i++) {
                size--;
                y.is("undo()", remembered - i).is("size(0)", size);
            }
        }
        takeBack(y, 10, size - 1, 9999);

        sentence("undo: Throws IllegalStateException if none is remembered");
        made().no("undo()", STATE).no("add(0)", ARGUMENT).no("undo()", STATE).is("add(5)", 0).is("undo()", 0)
                .no("undo()", STATE).is("about(0)", 0).is("add(6)", 0).is("undo()", 0).no("undo()", STATE);

        sentence("load and restore are not actions.");
        tables(1).text("t5").is("load()", 0).no("undo()", STATE).is("save(0)", 0).is("resize(0, 6)", 5).is("save(1)", 0)
                .is("undo()", 0).is("size(0)", 5).is("restore(1)", 0).no("undo()", STATE).is("size(0)", 6);
    }

    /** Takes back all: as many as told, to sizes that go down from the one told, or to the first one below 1. */
    private static void takeBack(Plans x, int remembered, int size, int first) {
        for (int left = remembered - 1; left >= 0; left--) {
            int due = size - (remembered - 1 - left);
            x.is("undo()", left).is("size(0)", due < 1 ? first : due);
        }
        x.no("undo()", STATE);
    }

    // ---- EXCEPTIONS

    private static void exceptions() {
        sentence("IndexOutOfBoundsException means that a table does not exist (also if a set has one that does not)");
        seven().is("run(127)", 0).no("run(128)", INDEX).no("rows(255, 1)", INDEX).no("cost(128, 2)", INDEX)
                .no("order(128, 0, 0)", INDEX).no("way(128, 1)", INDEX).no("learnsIn(128)", INDEX)
                .no("matters(0, 1, 128)", INDEX).is("cost(127, 2)", 0).is("learnsIn(127)", 0).no("size(7)", INDEX)
                .no("matters(0, 7, 127)", INDEX).no("link(7, 0, 1, 1)", INDEX).is("size(6)", 70);
        made().no("run(1)", INDEX).no("rows(1, 0)", INDEX).no("order(1, 0, 0)", INDEX).no("way(1, 1)", INDEX)
                .no("cost(1, 0)", INDEX).no("learnsIn(1)", INDEX).no("resize(0, 5)", INDEX).no("drift(0, 0, 5)", INDEX);

        noSuchTable("size(T)");
        noSuchTable("resize(T, 5)");
        noSuchTable("pair(T, 0, 0)");
        noSuchTable("pair(0, T, 0)");
        noSuchTable("link(T, 0, 5, 5)");
        noSuchTable("link(0, T, 5, 5)");
        noSuchTable("drift(T, 0, 5)");
        noSuchTable("drift(0, T, 5)");
        noSuchTable("matters(T, 0, 7)");
        noSuchTable("matters(0, T, 7)");
        noSuchSet("run(S)");
        noSuchSet("rows(S, 0)");
        noSuchSet("rows(S, 2)");
        noSuchSet("order(S, 1, 0)");
        noSuchSet("way(S, 1)");
        noSuchSet("cost(S, 0)");
        noSuchSet("cost(S, 1)");
        noSuchSet("cost(S, 2)");
        noSuchSet("matters(0, 1, S)");
        noSuchSet("learnsIn(S)");

        sentence("or that a save slot is not 0 or 1");
        Plans slots = tables(5).is("save(0)", 0).is("save(1)", 0);
        for (String slot : new String[] {"-1", "2", "MIN", "MAX"}) {
            slots.no("save(" + slot + ")", INDEX).no("restore(" + slot + ")", INDEX);
        }

        sentence("the one that its description names first is thrown");
        Plans full = made().text("x".repeat(100));
        full.no("append(256)", ARGUMENT).no("append(-1)", ARGUMENT).no("append(255)", STATE)
                .no("costOfText(3)", ARGUMENT)
                .no("costOfText(-1)", ARGUMENT).no("costOfText(2)", STATE);
        seven().no("add(0)", ARGUMENT).no("add(10000)", ARGUMENT).no("add(1)", STATE);
        tables(5, 5).no("resize(2, 0)", INDEX).no("resize(-1, 10000)", INDEX).no("resize(1, 0)", ARGUMENT)
                .no("pair(2, 2, 0)", INDEX).no("pair(0, 2, 5)", INDEX).no("pair(-1, -1, -1)", INDEX)
                .no("pair(1, 1, 0)", ARGUMENT).no("pair(1, 1, 5)", ARGUMENT).no("pair(0, 1, 5)", ARGUMENT)
                .no("link(2, 2, 5, 5)", INDEX).no("link(0, 2, 0, 0)", INDEX).no("link(-1, 0, 1001, 5)", INDEX)
                .no("link(1, 1, 5, 5)", ARGUMENT).no("link(1, 1, 0, 0)", ARGUMENT)
                .no("drift(2, 2, 5)", INDEX).no("drift(0, 2, 0)", INDEX).no("drift(-1, 0, 5)", INDEX)
                .no("drift(1, 1, 5)", ARGUMENT).no("drift(0, 1, 0)", ARGUMENT).no("drift(0, 1, 1001)", ARGUMENT)
                .no("drift(0, 1, 1)", STATE).no("drift(0, 1, 1000)", STATE)
                .no("rows(4, 3)", INDEX).no("rows(-1, -1)", INDEX).no("order(4, 3, 0)", INDEX)
                .no("order(4, 0, -1)", INDEX)
                .no("order(-1, -1, -1)", INDEX).no("way(4, 0)", INDEX).no("way(-1, -1)", INDEX)
                .no("cost(4, 3)", INDEX).no("cost(-1, -1)", INDEX).no("matters(2, 2, 3)", INDEX)
                .no("matters(1, 1, 4)", INDEX).no("matters(1, 1, -1)", INDEX).no("matters(-1, -1, 3)", INDEX)
                .no("matters(1, 1, 3)", ARGUMENT).no("restore(2)", INDEX).no("restore(-1)", INDEX)
                .no("restore(1)", STATE);

        sentence("A call that throws an exception changes nothing.");
        // A full text, a full world, fourteen states, two slots: nothing can be remembered unseen, or left out.
        Plans all = made().text("t10;t20;t30;t40;t50;t60;t70;p011,900;p561000,1").is("load()", 0).does("save(0)",
                "run(127)", "weeks(1)", "save(1)");
        for (int i = 1; i <= 14; i++) {
            all.does("resize(0, " + i + ")");
        }
        all.no("append(256)", ARGUMENT).no("about(6)", ARGUMENT).no("sum(4)", ARGUMENT).no("size(7)", INDEX)
                .no("pair(0, 0, 0)", ARGUMENT).no("surprise(10, 0)", ARGUMENT).no("setting(3)", ARGUMENT)
                .no("add(5)", STATE).no("add(0)", ARGUMENT).no("resize(0, 0)", ARGUMENT)
                .no("link(0, 1, 5, 0)", ARGUMENT)
                .no("link(0, 1, 0, 5)", ARGUMENT).no("link(1, 1, 5, 5)", ARGUMENT).no("drift(0, 2, 5)", STATE)
                .no("drift(0, 1, 0)", ARGUMENT).no("run(0)", ARGUMENT).no("run(128)", INDEX).no("weeks(0)", ARGUMENT)
                .no("weeks(21)", ARGUMENT).no("set(0, 0)", ARGUMENT).no("set(3, 1)", ARGUMENT)
                .no("rows(127, 3)", ARGUMENT)
                .no("order(127, 3, 0)", ARGUMENT).no("way(127, 0)", ARGUMENT).no("cost(127, 3)", ARGUMENT)
                .no("costOfText(3)", ARGUMENT).no("costOfText(0)", STATE).no("matters(0, 0, 127)", ARGUMENT)
                .no("learnsIn(0)", ARGUMENT).no("runScript(0, 0)", ARGUMENT).no("simulate(0, 0)", ARGUMENT)
                .no("save(2)", INDEX).no("restore(2)", INDEX);
        takeBack(all, 14, 13, 10);
    }

    private static void noSuchTable(String call) {
        sentence(call + " .. Throws IndexOutOfBoundsException if there is no such table");
        Plans x = linkAll(tables(5, 5, 5), 3, 5, 500).is("run(7)", 3)
                .does(call.replace("T", "1"), call.replace("T", "2"));
        for (String t : new String[] {"-1", "3", "6", "7", "31", "32", "MIN", "MAX"}) {
            x.no(call.replace("T", t), INDEX);
        }
    }

    private static void noSuchSet(String call) {
        sentence(call + " .. if the set has a table that there is not, or is below 0");
        Plans x = linkAll(tables(5, 5, 5), 3, 5, 500).is("run(7)", 3)
                .does(call.replace("S", "1"), call.replace("S", "7"));
        for (String set : new String[] {"-1", "-8", "8", "15", "64", "128", "135", "256", "1073741824", "MIN", "MAX"}) {
            x.no(call.replace("S", set), INDEX);
        }
    }

    // ---- promises 6 to 11

    private static void whatThereIs() {
        sentence("about: Throws IllegalArgumentException if what is not 0 to 5");
        linkAll(tables(5, 5, 5), 3, 5, 500).does("run(7)", "run(1)", "weeks(2)", "weeks(1)", "drift(0, 1, 5)", "run(3)",
                "link(1, 2, 5, 5)").is("about(0)", 3).is("about(1)", 3).is("about(2)", 2).is("about(3)", 3)
                .is("about(4)", 3).is("about(5)", 4).no("about(-1)", ARGUMENT).no("about(6)", ARGUMENT)
                .no("about(MIN)", ARGUMENT).no("about(MAX)", ARGUMENT);

        sentence("sum: 2: what the last one cost in truth; 3: the regret of the last one (0 without a run)");
        long truth = 39 + 42 + 42 * 9999 + 42 * 9999;
        long regret = 42 * 9999 - 3 * (42 + 9999);
        loaded("t6;t7;t9999;p011,1000").is("sum(2)", 0).is("sum(3)", 0).is("sum(0)", 0).is("sum(1)", 0).is("run(7)", 1)
                .is("sum(0)", truth).is("sum(1)", regret).is("sum(2)", truth).is("sum(3)", regret)
                .is("run(7)", 0).is("sum(0)", truth + truth - regret).is("sum(1)", regret).is("sum(2)", truth - regret)
                .is("sum(3)", 0).is("run(4)", 0).is("sum(0)", truth + truth - regret).is("sum(2)", 0)
                .is("undo()", 2).is("sum(2)", truth - regret).is("undo()", 1).is("sum(3)", regret).is("undo()", 0)
                .is("sum(2)", 0).is("sum(3)", 0);

        sentence("sum: Throws IllegalArgumentException if what is not 0 to 3");
        made().no("sum(-1)", ARGUMENT).no("sum(4)", ARGUMENT).no("sum(MIN)", ARGUMENT).no("sum(MAX)", ARGUMENT);

        sentence("size: Throws IndexOutOfBoundsException if there is no such table");
        made().no("size(0)", INDEX).no("size(-1)", INDEX).is("add(3)", 0).is("size(0)", 3).no("size(1)", INDEX)
                .is("undo()", 0).no("size(0)", INDEX);

        sentence("pair: 3: how old its memory is, NONE without one");
        two(500, 900).is("pair(0, 1, 3)", NONE).is("run(3)", 1).is("pair(0, 1, 3)", 0).is("weeks(4)", 1)
                .is("pair(0, 1, 3)", 4).is("weeks(1)", 0).is("pair(0, 1, 3)", NONE);

        sentence("4: the surprises of it so far (also those before it was linked otherwise)");
        two(500, 900).is("pair(0, 1, 4)", 0).is("run(3)", 1).is("run(3)", 0).is("pair(0, 1, 4)", 1)
                .is("link(0, 1, 1, 1000)", 1).is("pair(0, 1, 4)", 1).is("run(3)", 1).is("pair(0, 1, 4)", 2)
                .is("weeks(5)", 0).is("pair(0, 1, 4)", 2);

        sentence("pair: Returns that number; NONE if the pair is not linked.");
        Plans x = tables(5, 5, 5).does("link(0, 2, 7, 8)");
        for (int what = 0; what <= 4; what++) {
            x.is("pair(0, 1, " + what + ")", NONE).is("pair(2, 1, " + what + ")", NONE);
        }
        x.is("pair(0, 2, 0)", 7).is("pair(0, 2, 1)", 8).is("pair(0, 2, 2)", 7).is("pair(0, 2, 3)", NONE)
                .is("pair(0, 2, 4)", 0);

        sentence("pair: Throws IllegalArgumentException if both are the same, or what is not 0 to 4");
        two(5, 5).no("pair(0, 0, 0)", ARGUMENT).no("pair(1, 1, 4)", ARGUMENT).no("pair(0, 1, -1)", ARGUMENT)
                .no("pair(0, 1, 5)", ARGUMENT).no("pair(0, 1, MIN)", ARGUMENT).no("pair(0, 1, MAX)", ARGUMENT);
        tables(5, 5).no("pair(0, 1, -1)", ARGUMENT).no("pair(0, 1, 5)", ARGUMENT);

        toldSurprises();
    }

    private static void toldSurprises() {
        sentence("k: which one, 0 the last one, 1 the one before it, and so on up to 9 .. NONE if there were not so many");
        // One surprise a run: the k-th is believed at 1, 100, 189 and so on, always a tenth nearer to 1000.
        List<Integer> believed = new ArrayList<>(List.of(1));
        Plans x = two(1, 1000).does("set(0, 1)", "set(1, 1)", "set(2, 20)");
        for (int runs = 0; runs <= 21; runs++) {
            if (runs < 2 || runs > 8 && runs < 12 || runs > 18) {
                for (int k = 0; k < 10; k++) {
                    x.is("surprise(" + k + ", 1)", k < runs ? believed.get(runs - 1 - k) : NONE);
                    x.is("surprise(" + k + ", 3)", k < runs ? runs - 1 - k : NONE);
                }
            }
            int last = believed.get(believed.size() - 1);
            x.is("run(3)", 1).is("weeks(1)", 1);
            believed.add(last + Math.max(1, (1000 - last) / 10));
        }
        // What was overwritten in the ring comes back with its state.
        Plans y = two(1, 1000).does("set(0, 1)", "set(1, 1)");
        for (int runs = 1; runs <= 12; runs++) {
            y.does("run(3)");
        }
        y.is("surprise(9, 1)", believed.get(2));
        for (int runs = 11; runs >= 8; runs--) {
            y.does("undo()").is("surprise(0, 1)", believed.get(runs - 1)).is("about(5)", runs)
                    .is("surprise(9, 1)", runs < 10 ? NONE : believed.get(runs - 10));
        }
        y.does("drift(0, 1, 900)").is("run(3)", 1).is("surprise(0, 2)", 900).is("surprise(1, 2)", 1000)
                .is("surprise(8, 1)", 1).is("surprise(9, 1)", NONE);
        // All ten of them were overwritten behind the save, and eight of them behind the oldest remembered state.
        Plans w = two(1, 1000).does("set(0, 1)", "set(1, 1)");
        for (int runs = 1; runs <= 20; runs++) {
            w.does("run(3)");
            if (runs == 9) {
                w.is("save(0)", 0);
            }
        }
        for (int runs = 20; runs >= 6; runs--) {
            for (int k = 0; k < 10; k++) {
                w.is("surprise(" + k + ", 1)", k < runs ? believed.get(runs - 1 - k) : NONE);
            }
            if (runs > 6) {
                w.does("undo()");
            }
        }
        w.no("undo()", STATE).is("restore(0)", 0);
        for (int k = 0; k < 10; k++) {
            w.is("surprise(" + k + ", 1)", k < 9 ? believed.get(8 - k) : NONE);
        }
        // More surprises by one run than are told.
        Plans z = linkAll(tables(1, 1, 1, 1, 1, 1, 1), 7, 1, 1000).is("run(127)", 21);
        int[] pairs = {56, 46, 45, 36, 35, 34, 26, 25, 24, 23};
        for (int k = 0; k < pairs.length; k++) {
            z.is("surprise(" + k + ", 0)", pairs[k]);
        }

        sentence("3: in which week it was (0 for the first one)");
        two(1, 1000).is("run(3)", 1).is("surprise(0, 3)", 0).is("weeks(1)", 1).is("drift(0, 1, 1)", 1000)
                .is("run(3)", 1)
                .is("surprise(0, 3)", 1).is("surprise(1, 3)", 0).is("weeks(20)", 0).is("drift(0, 1, 900)", 1)
                .is("run(3)", 1).is("surprise(0, 3)", 21).is("surprise(1, 3)", 1).is("surprise(2, 3)", 0);

        sentence("surprise: 0: 10 * (the lower table) + (the higher one); 1: the share that was believed; 2: the true one");
        seven().does("link(6, 5, 3, 777)", "link(1, 0, 900, 800)").is("run(127)", 2).is("surprise(0, 0)", 56)
                .is("surprise(0, 1)", 3).is("surprise(0, 2)", 777).is("surprise(1, 0)", 1).is("surprise(1, 1)", 900)
                .is("surprise(1, 2)", 800).is("drift(5, 6, 1)", 777).is("link(5, 6, 2, 2)", 2).is("surprise(0, 1)", 3)
                .is("surprise(0, 2)", 777);

        sentence("surprise: Throws IllegalArgumentException if k is not 0 to 9, or what is not 0 to 3");
        two(1, 1000).does("run(3)").no("surprise(-1, 0)", ARGUMENT).no("surprise(10, 0)", ARGUMENT)
                .no("surprise(0, -1)", ARGUMENT).no("surprise(0, 4)", ARGUMENT).no("surprise(9, 4)", ARGUMENT)
                .no("surprise(MIN, 0)", ARGUMENT).no("surprise(MAX, 0)", ARGUMENT).no("surprise(0, MIN)", ARGUMENT)
                .no("surprise(0, MAX)", ARGUMENT).is("surprise(9, 3)", NONE).is("surprise(0, 0)", 1)
                .is("surprise(0, 3)", 0).is("surprise(9, 0)", NONE);
    }

    // ---- promises 12 to 18

    private static void actions() {
        sentence("Adds a table, which is linked to none.");
        two(500, 900).does("run(3)").is("add(9)", 2).is("pair(0, 2, 0)", NONE).is("pair(1, 2, 4)", NONE)
                .is("about(1)", 1)
                .is("link(0, 2, 5, 6)", 2).is("undo()", 5).is("undo()", 4).no("pair(0, 2, 0)", INDEX).is("add(8)", 2)
                .is("pair(0, 2, 0)", NONE).is("about(1)", 1);

        sentence("add: Throws IllegalStateException if there are 7");
        tables(1, 2, 3, 4, 5, 6).is("add(7)", 6).no("add(8)", STATE).is("undo()", 6).is("add(9)", 6).is("size(6)", 9)
                .no("add(9)", STATE);

        sentence("add: Throws IllegalArgumentException if size is out of range");
        made().no("add(0)", ARGUMENT).no("add(10000)", ARGUMENT).no("undo()", STATE).is("add(9999)", 0).is("add(1)", 1)
                .no("add(0)", ARGUMENT).no("add(10000)", ARGUMENT).is("undo()", 1);

        sentence("resize: Throws IllegalArgumentException if size is out of range");
        tables(5, 6).no("resize(1, 0)", ARGUMENT).no("resize(1, 10000)", ARGUMENT).is("resize(1, 9999)", 6)
                .is("resize(1, 1)", 9999).no("resize(0, 0)", ARGUMENT).no("resize(0, 10000)", ARGUMENT).is("undo()", 3)
                .is("size(1)", 9999);

        sentence("resize: Returns the previous one.");
        seven().is("resize(0, 5)", 10).is("resize(0, 6)", 5).is("resize(6, 5)", 70).is("resize(6, 5)", 5)
                .is("size(5)", 60);

        sentence("link: or gives a linked one other shares; its memory, if it has one, is forgotten");
        linkAll(tables(5, 5, 5), 3, 5, 500).does("run(7)").is("about(2)", 3).is("link(0, 1, 7, 8)", 3).is("about(2)", 2)
                .is("pair(0, 1, 2)", 7).is("pair(0, 1, 3)", NONE).is("link(0, 1, 7, 8)", 3).is("about(2)", 2)
                .is("pair(0, 2, 2)", 500).is("link(1, 2, 5, 500)", 3).is("about(2)", 1).is("pair(1, 2, 2)", 5)
                .is("run(7)", 1);

        sentence("link: Returns the number of linked pairs then.");
        Plans x = tables(1, 1, 1, 1, 1, 1, 1);
        int links = 0;
        for (int high = 1; high < 7; high++) {
            for (int low = 0; low < high; low++) {
                links++;
                x.is("link(" + low + ", " + high + ", " + links + ", 1)", links);
            }
        }
        x.is("about(1)", 21).is("link(6, 0, 1, 1)", 21).is("pair(5, 6, 0)", 21).is("pair(0, 1, 0)", 1);

        sentence("link: Throws IllegalArgumentException if both are the same, or a share is out of range");
        tables(5, 5).no("link(0, 0, 5, 5)", ARGUMENT).no("link(1, 1, 5, 5)", ARGUMENT).no("link(0, 1, 0, 5)", ARGUMENT)
                .no("link(0, 1, 5, 1001)", ARGUMENT).is("about(1)", 0);

        sentence("drift: share: 1 to 1000");
        two(500, 900).is("drift(0, 1, 1)", 900).is("drift(1, 0, 1000)", 1).no("drift(0, 1, 0)", ARGUMENT)
                .no("drift(0, 1, 1001)", ARGUMENT).no("drift(0, 1, -1)", ARGUMENT).no("drift(0, 1, MIN)", ARGUMENT)
                .no("drift(0, 1, MAX)", ARGUMENT).no("drift(0, 0, 5)", ARGUMENT).is("pair(0, 1, 1)", 1000)
                .is("pair(0, 1, 0)", 500);

        sentence("drift: Throws IllegalArgumentException if both are the same, or the share is out of range");
        two(500, 900).no("drift(0, 0, 5)", ARGUMENT).no("drift(1, 1, 5)", ARGUMENT).no("drift(1, 1, 0)", ARGUMENT)
                .no("drift(1, 0, 0)", ARGUMENT).no("drift(1, 0, 1001)", ARGUMENT).is("undo()", 2);

        sentence("drift: Returns the previous one.");
        two(500, 900).is("drift(0, 1, 5)", 900).is("drift(0, 1, 6)", 5).is("drift(0, 1, 6)", 6)
                .is("link(0, 1, 7, 8)", 1)
                .is("drift(0, 1, 9)", 8);

        sentence("Changes the true share of a linked pair; its memory stays.");
        two(500, 900).does("run(3)", "weeks(2)").is("drift(0, 1, 5)", 900).is("pair(0, 1, 2)", 900)
                .is("pair(0, 1, 3)", 2).is("about(2)", 1).is("pair(0, 1, 1)", 5);

        sentence("drift: Throws IllegalStateException if the pair is not linked");
        tables(5, 5, 5).does("link(0, 1, 5, 5)").no("drift(0, 2, 5)", STATE).no("drift(2, 1, 5)", STATE)
                .is("drift(0, 1, 6)", 5).does("link(0, 2, 7, 8)").is("drift(0, 2, 5)", 8).is("undo()", 6)
                .is("undo()", 5)
                .no("drift(0, 2, 5)", STATE);

        sentence("run: set of 1 or more tables .. Throws IllegalArgumentException if it is empty");
        made().no("run(0)", ARGUMENT).no("run(1)", INDEX);
        seven().no("run(0)", ARGUMENT).is("run(1)", 0).is("run(64)", 0).is("run(127)", 0).is("about(4)", 3);

        sentence("run: Returns how many surprises there are by it.");
        linkAll(tables(1, 1, 1), 3, 1, 1000).is("run(2)", 0).is("run(3)", 1).is("run(7)", 2).is("run(7)", 0)
                .is("about(5)", 3).is("about(4)", 4);

        sentence("weeks: n: 1 to 20");
        two(500, 900).no("weeks(0)", ARGUMENT).no("weeks(21)", ARGUMENT).no("weeks(-1)", ARGUMENT)
                .no("weeks(MIN)", ARGUMENT).no("weeks(MAX)", ARGUMENT).is("weeks(1)", 0).is("about(3)", 1)
                .is("weeks(20)", 0).is("about(3)", 21).is("undo()", 4).is("about(3)", 1);

        sentence("weeks: Throws IllegalArgumentException if n is out of range");
        two(1, 900).does("set(2, 20)", "run(3)").no("weeks(0)", ARGUMENT).no("weeks(21)", ARGUMENT).is("about(3)", 0)
                .is("pair(0, 1, 3)", 0).is("undo()", 4).is("about(2)", 0);

        sentence("weeks: Returns the number of memories then.");
        linkAll(tables(1, 1, 1), 3, 1, 1000).is("weeks(1)", 0).is("run(3)", 1).is("weeks(2)", 1).is("run(6)", 1)
                .is("weeks(2)", 2).is("weeks(1)", 1).is("weeks(1)", 1).is("weeks(1)", 0);
    }

    // ---- promises 20 to 27

    private static void whatIsChosen() {
        sentence("these and all following methods up to the save slots change nothing");
        // That a call changed nothing is seen by all checks of calls that ask; here with all there is to change.
        Plans all = made().text("3>2>1>0").does("add(9)", "save(0)", "add(80)", "add(7)", "add(600)",
                "link(0, 1, 1, 900)", "link(2, 3, 800, 5)", "link(1, 3, 5, 5)", "run(15)", "save(1)", "weeks(2)",
                "drift(1, 3, 700)").is("undo()", 9).does("drift(1, 3, 701)");
        for (String call : new String[] {"rows(15, 0)", "order(15, 1, 0)", "way(15, 2)", "cost(15, 0)", "cost(15, 1)",
            "cost(15, 2)", "costOfText(2)", "matters(0, 1, 15)", "worst()", "learnsIn(15)", "runScript(1, 100015)",
            "runScript(3, 501555200020400005)", "runScript(2, 301555600015)", "simulate(1, 40)", "simulate(2, 40)",
            "errorPosition(true)", "surprise(0, 0)", "pair(0, 1, 2)"}) {
            String answer = all.answer(call);
            check(isNumber(answer), call + ": " + answer);
            all.is(call, Long.parseLong(answer));
        }
        all.is("undo()", 9).is("pair(1, 3, 1)", 5);

        sentence("rows: Throws IllegalArgumentException if kind is not 0 to 2");
        two(5, 5).no("rows(3, -1)", ARGUMENT).no("rows(3, 3)", ARGUMENT).no("rows(0, 3)", ARGUMENT)
                .no("rows(3, MIN)", ARGUMENT).no("rows(3, MAX)", ARGUMENT);

        sentence("order: which table of its order, from 0 .. NONE if there are not so many");
        made().is("order(0, 0, 0)", NONE).is("order(0, 1, MAX)", NONE);
        seven().is("order(0, 1, 0)", NONE).is("order(64, 2, 0)", 6).is("order(64, 2, 1)", NONE)
                .is("order(127, 1, 0)", 0).is("order(127, 1, 6)", 6).is("order(127, 1, 7)", NONE)
                .is("order(127, 1, MAX)", NONE).is("order(127, 0, 128)", NONE).is("order(96, 1, 2)", NONE)
                .is("order(96, 1, 1)", 6).is("order(96, 1, 0)", 5);

        sentence("order: Throws IllegalArgumentException if kind is not 0 to 2, or k is negative");
        two(5, 5).no("order(3, -1, 0)", ARGUMENT).no("order(3, 3, 0)", ARGUMENT).no("order(3, 0, -1)", ARGUMENT)
                .no("order(0, 0, -1)", ARGUMENT).no("order(3, 0, MIN)", ARGUMENT).no("order(3, MAX, 0)", ARGUMENT)
                .no("order(3, MIN, 0)", ARGUMENT).no("order(0, 3, MAX)", ARGUMENT);

        sentence("order: kind: 0: by the guessed shares; 1: by the believed ones; 2: by the true ones");
        // 0 and 1 first, if few rows are thought to be in them; otherwise 1 and 2.
        Plans x = loaded("t100;t100;t100;p015,900;p12500,10").does("set(1, 5)");
        order(x, 7, 0, 0, 1, 2);
        order(x, 7, 1, 0, 1, 2);
        order(x, 7, 2, 1, 2, 0);
        x.is("run(7)", 2).is("pair(0, 1, 2)", 452).is("pair(1, 2, 2)", 255);
        order(x, 7, 0, 0, 1, 2);
        order(x, 7, 1, 1, 2, 0);
        order(x, 7, 2, 1, 2, 0);

        sentence("way: which step, 1 for the second table of the order, and so on .. NONE if there are not so many tables");
        made().is("way(0, 1)", NONE).is("way(0, MAX)", NONE);
        seven().is("way(0, 1)", NONE).is("way(1, 1)", NONE).is("way(64, 1)", NONE).is("way(3, 1)", 1)
                .is("way(3, 2)", NONE)
                .is("way(127, 1)", 1).is("way(127, 6)", 1).is("way(127, 7)", NONE).is("way(127, MAX)", NONE);
        tables(1, 1, 1, 1, 1, 1, 1).is("way(127, 1)", 0).is("way(127, 6)", 0).is("way(127, 7)", NONE);
        tables(6, 50, 6).is("order(7, 1, 1)", 2).is("order(7, 1, 2)", 1).is("way(7, 1)", 0).is("way(7, 2)", 1)
                .is("way(7, 3)", NONE);
        loaded("t6;t7;t9999;p011,1").is("order(7, 1, 2)", 2).is("way(7, 1)", 1).is("way(7, 2)", 0)
                .is("way(7, 3)", NONE);

        sentence("way: Throws IllegalArgumentException if k is below 1");
        seven().no("way(127, 0)", ARGUMENT).no("way(127, -1)", ARGUMENT).no("way(127, MIN)", ARGUMENT)
                .no("way(0, 0)", ARGUMENT).no("way(1, 0)", ARGUMENT);

        sentence("(0 for the empty set, and for one table)");
        for (int what = 0; what <= 2; what++) {
            made().is("cost(0, " + what + ")", 0);
            two(1, 1000).is("cost(0, " + what + ")", 0).is("cost(1, " + what + ")", 0).is("cost(2, " + what + ")", 0);
        }

        sentence("cost: 0: by the believed shares; 1: in truth, if it was run now; 2: the regret, if it was run now");
        two(1, 900).is("cost(3, 0)", 600 + 10).is("cost(3, 1)", 600 + 9000).is("cost(3, 2)", 0)
                .does("set(1, 5)", "run(3)")
                .is("cost(3, 0)", 600 + 4500).is("cost(3, 1)", 600 + 9000);

        sentence("cost: Throws IllegalArgumentException if what is not 0 to 2");
        two(5, 5).no("cost(3, -1)", ARGUMENT).no("cost(3, 3)", ARGUMENT).no("cost(0, 3)", ARGUMENT)
                .no("cost(3, MIN)", ARGUMENT).no("cost(3, MAX)", ARGUMENT);

        plansOfTexts();
        memoriesThatMatter();
        pairsWronglyBelieved();
        setsThatAreLearned();
    }

    private static void plansOfTexts() {
        sentence("Tells what the plan of the text costs (with ways of joining by the same shares).");
        // 1 row behind the first two by the guess, 42 in truth; a list is cheaper by these, and loops by the guess.
        Plans x = loaded("t6;t7;t9999;p011,1000").does("set(1, 1)", "run(7)").text("1>0>2")
                .is("costOfText(0)", 39 + 1 + 9999 + 9999)
                .is("costOfText(1)", 39 + 4 + 3 * (4 + 9999) + 4 * 9999)
                .is("costOfText(2)", 39 + 42 + 3 * (42 + 9999) + 42 * 9999);
        x.text("2").is("costOfText(0)", 0).text("2>1").is("costOfText(2)", 3 * (9999 + 7) + 7 * 9999);
        seven().text("6>5>4>3>2>1>0").is("costOfText(0)", 390 + 4200 + 12750 + 210000 + 630120 + 8400000 + 25200090
                + 252000000 + 756000060 + 5040000000L + 15120000030L + 50400000000L);

        sentence("costOfText: Throws IllegalStateException if the text is not a plan, or has a table that there is not");
        tables(5, 5).no("costOfText(0)", STATE).text("0>").no("costOfText(0)", STATE).text("t5")
                .no("costOfText(1)", STATE)
                .text("0>1>0").no("costOfText(2)", STATE).text("0>1>2").no("costOfText(0)", STATE).text("2")
                .no("costOfText(0)", STATE).text("6>0").no("costOfText(0)", STATE).text("7").no("costOfText(0)", STATE)
                .text("1>0").is("costOfText(0)", 50).text("1").is("costOfText(0)", 0);
        made().text("0").no("costOfText(0)", STATE).is("add(5)", 0).is("costOfText(0)", 0).is("undo()", 0)
                .no("costOfText(0)", STATE);

        sentence("costOfText: Throws IllegalArgumentException if kind is not 0 to 2");
        tables(5, 5).text("0>1").no("costOfText(-1)", ARGUMENT).no("costOfText(3)", ARGUMENT)
                .no("costOfText(MIN)", ARGUMENT).no("costOfText(MAX)", ARGUMENT).is("costOfText(2)", 50);
    }

    private static void memoriesThatMatter() {
        sentence("Returns 1 if the pair has a memory, and another order would be chosen for the set if it had none; otherwise 0.");
        String world = "t100;t100;t100;p015,900;p12500,10";
        loaded(world).is("matters(0, 1, 7)", 0).is("matters(1, 2, 7)", 0).is("matters(0, 2, 7)", 0).is("run(7)", 2)
                .is("matters(0, 1, 7)", 1).is("matters(1, 0, 7)", 1).is("matters(1, 2, 7)", 0).is("matters(0, 2, 7)", 0)
                .is("matters(0, 1, 3)", 0).is("matters(0, 1, 6)", 0).is("matters(0, 1, 1)", 0).is("matters(0, 1, 0)", 0)
                .is("link(0, 1, 5, 900)", 2).is("matters(0, 1, 7)", 0);
        // The true shares would ask for another order; what is believed, with the memory or without it, does not.
        loaded(world).does("set(1, 5)").is("run(3)", 1).is("pair(0, 1, 2)", 452).is("order(7, 2, 0)", 1)
                .is("order(7, 1, 0)", 0).is("order(7, 0, 0)", 0).is("matters(0, 1, 7)", 0);
        // The ways become others by the memory, and so do the costs, but not the order.
        loaded("t6;t7;t9999;p011,1000").is("way(7, 2)", 0).is("run(7)", 1).is("way(7, 2)", 1).is("order(7, 0, 0)", 0)
                .is("order(7, 0, 1)", 1).is("order(7, 1, 0)", 0).is("order(7, 1, 1)", 1).is("matters(0, 1, 7)", 0);
        // Without a memory that tells another share than the guess, nothing matters; one that is forgotten neither.
        loaded(world).is("run(3)", 1).is("matters(0, 1, 7)", 1).is("weeks(4)", 1).is("matters(0, 1, 7)", 1)
                .is("weeks(1)", 0)
                .is("matters(0, 1, 7)", 0);

        sentence("matters: Throws IllegalArgumentException if a and b are the same");
        loaded(world).is("run(7)", 2).no("matters(0, 0, 7)", ARGUMENT).no("matters(2, 2, 0)", ARGUMENT);
    }

    private static void pairsWronglyBelieved() {
        sentence("worst: of several the first one (by the lower table, then by the higher one); NONE if no pair is linked");
        made().is("worst()", NONE);
        seven().is("worst()", NONE).does("link(6, 5, 7, 7)").is("worst()", 56).does("link(4, 5, 7, 7)")
                .is("worst()", 45)
                .does("link(0, 6, 7, 7)").is("worst()", 6).does("link(0, 5, 7, 7)").is("worst()", 5)
                .does("link(1, 2, 1, 2)").is("worst()", 12).does("link(2, 3, 3, 2)").is("worst()", 12)
                .does("link(0, 3, 3, 2)").is("worst()", 3).does("link(2, 3, 4, 2)").is("worst()", 23)
                .does("link(5, 6, 1, 1000)").is("worst()", 56).does("link(3, 4, 1000, 1)").is("worst()", 34);
        // It is the believed share that counts, not the guess.
        two(1, 1000).does("add(5)", "link(1, 2, 500, 540)").is("worst()", 1).is("run(7)", 1).is("worst()", 12)
                .is("weeks(5)", 0).is("worst()", 1);
    }

    private static void setsThatAreLearned() {
        sentence("Returns the smallest number of runs, 0 to 30, one behind the other, behind which its regret would be 0");
        slow(1000).is("cost(7, 2)", 0).is("learnsIn(7)", 0).is("learnsIn(1)", 0).is("learnsIn(3)", 0);
        slow(2).is("learnsIn(7)", 1);
        slow(20).is("learnsIn(7)", 2);
        slow(21).is("learnsIn(7)", 2);
        slow(189).is("learnsIn(7)", 29);
        slow(190).is("learnsIn(7)", 30).does("run(7)").is("learnsIn(7)", 29).is("undo()", 8).is("learnsIn(7)", 30);

        sentence("learnsIn: NONE if there is none");
        slow(191).is("learnsIn(7)", NONE).does("run(7)").is("learnsIn(7)", 30);
        slow(190).does("set(0, 1000)").is("learnsIn(7)", NONE);
        slow(2).does("set(0, 1000)").is("learnsIn(7)", NONE).does("set(0, 999)").is("learnsIn(7)", 1);
        // No more is learned when the difference is below the threshold: from 1 by 99 to 100, and no further.
        slow(20).does("set(0, 901)").is("learnsIn(7)", NONE).does("set(0, 900)").is("learnsIn(7)", 2);

        sentence("learnsIn: Throws IllegalArgumentException if it is empty");
        made().no("learnsIn(0)", ARGUMENT);
        seven().no("learnsIn(0)", ARGUMENT).is("learnsIn(1)", 0).is("learnsIn(64)", 0).is("learnsIn(127)", 0);
    }

    /**
     * The pair of 0 and 1 is guessed at 1 and is 1000; it comes nearer by a tenth in each run: 100 behind the first,
     * 190 behind the second, 948 behind 29, 953 behind 30. 0 > 1 > 2 is chosen as long as it is believed at most 5
     * times the size of the table 2 (which pairs with the others at 500), and 0 > 2 > 1 is cheaper in truth.
     */
    private static Plans slow(int size) {
        return tables(100, 100, size).does("link(0, 1, 1, 1000)", "link(0, 2, 500, 500)", "link(1, 2, 500, 500)",
                "set(0, 1)", "set(1, 1)");
    }

    // ---- promise 28

    private static void scripts() {
        sentence("runScript: number of commands, 1 to 3");
        Plans x = seven().no("runScript(0, 0)", ARGUMENT).no("runScript(4, 0)", ARGUMENT)
                .no("runScript(-1, 0)", ARGUMENT)
                .no("runScript(MIN, 0)", ARGUMENT).no("runScript(MAX, 0)", ARGUMENT).is("runScript(1, 0)", 0)
                .is("runScript(3, 0)", 0).is("runScript(1, 800000)", NONE).is("runScript(2, 800000800000)", NONE)
                .is("runScript(3, 800000800000800000)", NONE);

        sentence("runScript: if script is negative or has more than 6 * n digits");
        x.no("runScript(1, -1)", ARGUMENT).no("runScript(2, -1)", ARGUMENT).no("runScript(3, MIN)", ARGUMENT)
                .is("runScript(1, 999999)", 0).no("runScript(1, 1000000)", ARGUMENT)
                .is("runScript(2, 1000000)", 0).is("runScript(2, 999999999999)", 0)
                .no("runScript(2, 1000000000000)", ARGUMENT).is("runScript(3, 1000000000000)", 0)
                .is("runScript(3, 999999999999999999)", 0).no("runScript(3, 1000000000000000000)", ARGUMENT)
                .no("runScript(3, MAX)", ARGUMENT).no("runScript(1, MAX)", ARGUMENT);

        sentence("the first command is the highest group of the number (with zeros before it, if it has fewer digits)");
        x.is("runScript(2, 800000)", 0).is("runScript(3, 800000)", 0).is("runScript(3, 800000800000)", 0)
                .is("runScript(2, 100001800001)", 1).is("runScript(2, 200001100001)", NONE);

        sentence("Returns the index, from 0, of the first command that fails; NONE if all succeed.");
        x.is("runScript(3, 900000000000000000)", 1).is("runScript(3, 900000900000000000)", 2)
                .is("runScript(3, 900000900000900000)", NONE).is("runScript(3, 0)", 0)
                .is("runScript(3, 100000900000100000)", 0).is("runScript(2, 100127100128)", 1);

        sentence("1 0 0 x y z: run(xyz).");
        commands(x, true, 100001, 100127);
        commands(x, false, 100000, 100128, 100999, 101001, 110001, 109127);
        commands(made(), false, 100000, 100001);

        sentence("2 0 0 0 n n: weeks(nn).");
        commands(x, true, 200001, 200020);
        commands(x, false, 200000, 200021, 200099, 200101, 201001, 210001);
        commands(made(), true, 200001);
        two(1, 900).does("run(3)").is("runScript(2, 200004701004)", NONE).is("runScript(2, 200004701003)", 1)
                .is("runScript(2, 200005701099)", 1);

        sentence("3 a b x y z: drift(a, b, xyz).");
        Plans linked = seven().does("link(0, 6, 5, 5)");
        commands(linked, true, 306001, 360999);
        commands(linked, false, 306000, 300001, 301001, 307001, 370001, 309001, 390001, 366001);
        linked.is("runScript(3, 306999100065800001)", NONE).is("runScript(3, 306009100127800001)", 2);

        sentence("4 w 0 x y z: set(w, xyz).");
        commands(x, true, 400001, 400999, 410001, 410010, 420000, 420020);
        commands(x, false, 400000, 410000, 410011, 420021, 430001, 490001, 401001, 429000);
        commands(made(), true, 420000);
        two(500, 540).is("runScript(3, 400041100003800001)", 2).is("runScript(3, 400040100003800001)", NONE);

        sentence("5 a b x y z: link(a, b, xyz, xyz).");
        commands(x, true, 501001, 510999, 506500, 556001);
        commands(x, false, 501000, 500001, 566001, 507001, 570001, 508001, 590001);
        seven().is("runScript(2, 356001556001)", 0).is("runScript(2, 556500356001)", NONE)
                .is("runScript(3, 556500356550100096)", NONE).is("pair(5, 6, 0)", NONE);
        two(1, 1000).does("run(3)").is("runScript(2, 501500701099)", 1).is("runScript(3, 501500301450100003)", NONE)
                .is("runScript(3, 501500100003800002)", 2);

        sentence("6 t k x y z: succeeds if the table t is the one with the number k of the order that is chosen");
        commands(x, true, 600127, 666127, 660064, 650096, 661096);
        commands(x, false, 601127, 656127, 667127, 677127, 660000, 600000, 661064, 600128, 670128, 670127, 680127,
                690000, 609001, 699999);
        commands(made(), false, 600000, 600001);
        // By what is believed, not by the guess or in truth, and behind the commands before it.
        loaded("t100;t100;t100;p015,900;p12500,10").is("runScript(1, 600007)", NONE).is("runScript(1, 610007)", 0)
                .is("runScript(2, 100007610007)", NONE).is("runScript(2, 100007600007)", 1).is("run(7)", 2)
                .is("runScript(1, 622007)", 0).is("runScript(1, 602007)", NONE);

        sentence("7 a b 0 n n: succeeds if the pair has a memory that is at most nn weeks old.");
        Plans old = tables(5, 5, 5).does("link(0, 1, 5, 500)", "link(0, 2, 5, 5)", "set(2, 20)", "run(7)", "weeks(12)");
        commands(old, true, 701012, 710013, 701099, 710012);
        commands(old, false, 701011, 701000, 701112, 701912, 702099, 712099, 700099, 711099, 703099, 730099, 739012,
                777099);
        old.does("run(3)");
        commands(old, true, 701000);
        old.does("link(0, 1, 5, 5)");
        commands(old, false, 701099);

        sentence("8 0 0 0 n n: succeeds if there were at least nn surprises so far.");
        commands(made(), true, 800000);
        commands(made(), false, 800001, 800100, 801000, 810000, 800099);
        Plans three = linkAll(tables(5, 5, 5), 3, 5, 500).does("run(7)");
        commands(three, true, 800000, 800003);
        commands(three, false, 800004, 800103, 801003, 810003);
        Plans many = linkAll(tables(1, 1, 1, 1, 1, 1, 1), 7, 1, 1000)
                .does("set(0, 1)", "set(1, 1)", "run(127)", "run(127)",
                "run(127)", "run(127)", "run(63)").is("about(5)", 99);
        commands(many, true, 800099);
        commands(many, false, 800100);
        many.is("runScript(2, 100003800099)", NONE).does("run(3)").is("about(5)", 100);
        commands(many, true, 800099);
        commands(many, false, 800100);
        many.does("undo()", "undo()", "run(47)").is("about(5)", 94);
        commands(many, true, 800094);
        commands(many, false, 800095, 800099, 800100);
        three.is("runScript(3, 304005100007800003)", 0).is("runScript(3, 301005100007800004)", NONE)
                .is("runScript(3, 301005100007800005)", 2);

        sentence("9 0 0 x y z: succeeds if cost(xyz, 2) is 0 then (also for the empty set).");
        commands(made(), true, 900000);
        commands(made(), false, 900001, 901000, 910000);
        Plans dear = loaded("t6;t7;t9999;p011,1000");
        commands(dear, true, 900000, 900001, 900003, 900006);
        commands(dear, false, 900007, 900008, 901003, 910003, 999999);
        dear.is("runScript(2, 100007900007)", NONE).is("runScript(2, 100003900007)", NONE)
                .is("runScript(2, 100005900007)", 1).is("runScript(2, 301001900007)", NONE);

        sentence("The commands 1 to 5 fail if the method would throw an exception");
        Plans pair = tables(5, 5, 5).does("link(0, 1, 5, 5)");
        commands(pair, true, 100007, 200020, 301005, 400005, 512005);
        commands(pair, false, 100000, 100008, 200000, 200021, 300005, 301000, 302005, 303005, 400000, 410011, 420021,
                430005, 500005, 501000, 503005, 504005);

        sentence("xyz and nn are decimal numbers.");
        commands(x, true, 100012, 100110, 200010, 200012, 400123, 410010, 420018, 900012, 900100, 600012 + 20000);
        commands(x, false, 200022, 410012, 900131);
        two(1, 900).does("set(2, 20)", "run(3)", "weeks(10)").is("runScript(1, 701010)", NONE)
                .is("runScript(1, 701009)", 0);

        sentence("commands with tables that do not exist fail, and so does any other group");
        commands(x, false, 0, 1, 99999, 100128, 307500, 507500, 670127, 600128, 706099, 707099, 900128);
        commands(two(5, 5), false, 302001, 502001, 600004, 620003, 702099, 900004, 100004);

        sentence("(also one with another digit where a 0 is written, and 7 for the same table twice)");
        commands(three, false, 110001, 101001, 200101, 201001, 210001, 401050, 409050, 701100, 702100, 711000, 722099,
                800100, 801000, 810000, 901000, 910000);

        sentence("Runs a script on a copy of the state.");
        two(1, 1000).is("runScript(3, 100003200003400007)", NONE).is("about(3)", 0).is("about(4)", 0).is("about(5)", 0)
                .is("about(2)", 0).is("setting(0)", 50).is("runScript(2, 301005501007)", NONE).is("pair(0, 1, 0)", 1)
                .is("pair(0, 1, 1)", 1000).is("undo()", 2);
    }

    private static void commands(Plans x, boolean succeed, int... commands) {
        for (int command : commands) {
            x.is("runScript(1, " + command + ")", succeed ? NONE : 0);
        }
    }

    // ---- promise 29

    private static void simulations() {
        sentence("simulate: number of turns, 1 to 40");
        two(1, 1000).no("simulate(5, 0)", ARGUMENT).no("simulate(5, 41)", ARGUMENT).no("simulate(5, -1)", ARGUMENT)
                .no("simulate(5, MIN)", ARGUMENT).no("simulate(5, MAX)", ARGUMENT);
        simulated("t100;t100;p011,1000", new String[0], 5, 1);
        simulated("t100;t100;p011,1000", new String[0], 5, 40);

        sentence("simulate: Throws IllegalArgumentException if m is out of range");
        made().no("simulate(0, 0)", ARGUMENT).no("simulate(0, 41)", ARGUMENT).is("simulate(0, 1)", 0)
                .is("simulate(0, 40)", 0);

        sentence("simulate: seed: any long");
        long[] seeds = {Long.MIN_VALUE, Long.MAX_VALUE, 0, -1, 1, Long.MIN_VALUE + 1, 1L << 33, -1L << 33};
        for (long seed : seeds) {
            simulated("t1;t20;t300;p011,1000;p12500,5;p021000,1", new String[0], seed, 40);
        }

        sentence("n is the number of tables; if it is 0, nothing happens");
        made().is("simulate(5, 1)", 0).is("simulate(MIN, 40)", 0).is("simulate(MAX, 40)", 0)
                .does("weeks(3)", "set(0, 7)")
                .is("simulate(0, 40)", 0).is("about(3)", 3).is("about(4)", 0);

        sentence("What would throw an exception is left out.");
        // One table: no pair can drift. Two that are not linked, and one table drawn twice: none can either.
        for (long seed = 0; seed < 6; seed++) {
            simulated("t5", new String[0], seed, 40);
            simulated("t5;t5", new String[0], seed, 40);
            simulated("t5;t5;t5;p011,1000", new String[0], seed, 40);
        }

        sentence("By r % 8: 0 to 3: run .. 4: weeks(1). 5 and 6: drift .. 7: set");
        // With the horizon 0 a week is seen at once, with a memory that a run made before; a drift by a run behind it.
        for (long seed = 100; seed < 148; seed++) {
            String[] before = {"set(2, 0)", "run(7)"};
            simulated("t100;t20;t3;p01300,600;p12600,100;p0280,900", before, seed, 1);
            simulated("t100;t20;t3;p01300,600;p12600,100;p0280,900", before, seed, 2);
            simulated("t100;t20;t3;p01300,600;p12600,100;p0280,900", before, seed, 3);
            simulated("t100;t20;t3;p01300,600;p12600,100;p0280,900", before, seed, 7);
        }
        simulated("t1;t2;t3;t4;t5;t6;t7;p01300,600;p56600,100;p0680,900;p12500,1", new String[0], 77, 40);

        sentence("5 and 6: drift(a, b, 1 + r / 512 % 1000).");
        for (int share : new int[] {1, 2, 200, 500, 999, 1000}) {
            long seed = seedOf(5, share);
            // The run behind it finds a difference that is just enough for a surprise, or just too little.
            for (int difference : new int[] {50, 49}) {
                if (share > difference) {
                    two(share - difference, share - difference)
                .is("simulate(" + seed + ", 2)", difference == 50 ? 101 : 0);
                }
                if (share <= 1000 - difference) {
                    two(share + difference, share + difference)
                .is("simulate(" + seed + ", 2)", difference == 50 ? 101 : 0);
                }
            }
        }

        sentence("7: set(0, 1 + r / 8 % 200).");
        for (int threshold : new int[] {1, 2, 49, 50, 51, 199, 200}) {
            long seed = seedOf(7, threshold);
            two(500, 500 + threshold).is("simulate(" + seed + ", 2)", 101);
            two(500, 500 + threshold - 1).is("simulate(" + seed + ", 2)", 0);
        }

        sentence("simulate: Returns 100 * (the surprises in them) + (the memories at the end).");
        Plans x = two(500, 900).does("run(3)").is("about(5)", 1);
        for (long seed = 0; seed < 40; seed++) {
            int answer = Integer.parseInt(x.answer("simulate(" + seed + ", 1)"));
            check(answer == 1, "no surprise is left to be had in one turn, and the memory stays: " + answer);
        }

        sentence("Simulates m turns on a copy of the state.");
        two(1, 1000).does("save(0)").is("simulate(3, 40)", expected(two(1, 1000), 3, 40)).is("about(3)", 0)
                .is("about(4)", 0).is("about(5)", 0).is("setting(0)", 50).is("pair(0, 1, 1)", 1000).is("undo()", 2);
    }

    /**
     * A seed by which, with two tables, the first turn is a drift of their pair to the share told (by 5), or sets the
     * threshold told (by 7), and the second turn runs both tables.
     */
    private static long seedOf(int turn, int number) {
        for (long seed = 0; seed < 10000000; seed++) {
            long x = seed * 6364136223846793005L + 1442695040888963407L;
            int r = (int) (x >>> 33);
            int next = (int) (x * 6364136223846793005L + 1442695040888963407L >>> 33);
            boolean drifts = (r % 8 == 5 || r % 8 == 6) && r / 8 % 2 != r / 64 % 2 && 1 + r / 512 % 1000 == number;
            boolean sets = r % 8 == 7 && 1 + r / 8 % 200 == number;
            if ((turn == 5 ? drifts : sets) && next % 8 <= 3 && next / 8 % 3 == 2) {
                return seed;
            }
        }
        throw new AssertionError("no such seed");
    }

    private static void simulated(String world, String[] before, long seed, int m) {
        long want = expected(loaded(world).does(before), seed, m);
        loaded(world).does(before).is("simulate(" + seed + ", " + m + ")", want);
    }

    /** A simulation, done by the calls that the document tells. */
    private static long expected(Plans x, long seed, int m) {
        long surprises = Long.parseLong(x.answer("about(5)"));
        int n = Integer.parseInt(x.answer("about(0)"));
        long state = seed;
        for (int i = 0; i < m; i++) {
            state = state * 6364136223846793005L + 1442695040888963407L;
            int r = (int) (state >>> 33);
            int a = r / 8 % n;
            int b = r / 64 % n;
            int turn = r % 8;
            if (turn <= 3) {
                x.answer("run(" + (1 + r / 8 % ((1 << n) - 1)) + ")");
            } else if (turn == 4) {
                x.answer("weeks(1)");
            } else if (turn == 7) {
                x.answer("set(0, " + (1 + r / 8 % 200) + ")");
            } else {
                x.answer("drift(" + a + ", " + b + ", " + (1 + r / 512 % 1000) + ")");
            }
        }
        return 100 * (Long.parseLong(x.answer("about(5)")) - surprises) + Long.parseLong(x.answer("about(2)"));
    }

    // ---- promises 30 and 31

    private static void saveSlots() {
        sentence("save: slot: 0 or 1 .. Throws IndexOutOfBoundsException if there is no such save slot");
        made().no("save(-1)", INDEX).no("save(2)", INDEX).no("save(MIN)", INDEX).no("save(MAX)", INDEX).is("save(0)", 0)
                .is("save(1)", 0).is("restore(0)", 0).is("restore(1)", 0).is("about(0)", 0);

        sentence("save: Returns the weeks so far.");
        tables(1).is("save(0)", 0).does("weeks(20)").is("save(1)", 20).does("weeks(1)").is("save(0)", 21)
                .is("save(0)", 21)
                .is("restore(1)", 20).is("restore(0)", 21);

        sentence("Stores the present state in a save slot.");
        // A slot holds what was there then, and the other one is another; saving forgets no remembered state.
        two(500, 900).is("save(0)", 0).does("run(3)", "weeks(2)", "resize(0, 7)", "set(2, 9)").is("save(1)", 2)
                .does("link(0, 1, 3, 3)").is("undo()", 7).is("about(2)", 1).is("restore(0)", 0).is("about(2)", 0)
                .is("about(4)", 0).is("size(0)", 100).is("setting(2)", 4).is("surprise(0, 0)", NONE)
                .is("sum(2)", 0).is("restore(1)", 2).is("about(2)", 1).is("pair(0, 1, 3)", 2).is("size(0)", 7)
                .is("setting(2)", 9).is("surprise(0, 1)", 500).is("pair(0, 1, 4)", 1).is("sum(2)", 600 + 9000);

        sentence("restore: and forgets all remembered states. The save slot keeps it.");
        Plans x = tables(1).is("save(1)", 0);
        for (int i = 1; i <= 15; i++) {
            x.does("resize(0, " + i + ")");
        }
        x.is("restore(1)", 0).no("undo()", STATE).is("size(0)", 1).does("resize(0, 5)", "resize(0, 6)").is("undo()", 1)
                .is("restore(1)", 0).no("undo()", STATE).is("size(0)", 1).does("weeks(3)").is("restore(1)", 0)
                .is("about(3)", 0).does("resize(0, 8)").is("undo()", 0).is("size(0)", 1).no("undo()", STATE);
        // Behind it, fourteen states are remembered again, and the fifteenth action forgets the oldest one.
        for (int i = 2; i <= 16; i++) {
            x.does("resize(0, " + i + ")");
        }
        takeBack(x, 14, 15, 1);

        sentence("restore: Returns the weeks so far, then.");
        tables(1).does("weeks(3)", "save(0)", "weeks(20)", "save(1)", "weeks(1)").is("restore(0)", 3).is("about(3)", 3)
                .is("restore(1)", 23).is("about(3)", 23).is("weeks(1)", 0).is("about(3)", 24).is("restore(0)", 3);

        sentence("restore: Throws IllegalStateException if nothing has been saved in it since the last load");
        tables(1).no("restore(0)", STATE).no("restore(1)", STATE).is("save(0)", 0).no("restore(1)", STATE)
                .is("restore(0)", 0).is("save(1)", 0).is("restore(1)", 0).text("t7").is("load()", 0)
                .no("restore(0)", STATE).no("restore(1)", STATE).is("save(1)", 0).no("restore(0)", STATE)
                .is("resize(0, 8)", 7).is("restore(1)", 0).is("size(0)", 7);

        sentence("restore: Throws IndexOutOfBoundsException if there is no such save slot");
        tables(1).is("save(0)", 0).is("save(1)", 0).does("resize(0, 5)").no("restore(-1)", INDEX)
                .no("restore(2)", INDEX)
                .no("restore(MIN)", INDEX).no("restore(MAX)", INDEX).is("size(0)", 5).is("undo()", 1);
        made().no("restore(-1)", INDEX).no("restore(2)", INDEX);
    }
}
