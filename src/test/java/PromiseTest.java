import java.util.function.LongSupplier;

/** The promises of the document, one after the other: ordinary calls, the edges that it names, wrong calls. */
public final class PromiseTest {
    private static final Class<?> INDEX = IndexOutOfBoundsException.class;
    private static final Class<?> ARGUMENT = IllegalArgumentException.class;
    private static final Class<?> STATE = IllegalStateException.class;
    private static final int NONE = -1;

    private static int checked = 0;
    private static int wrong = 0;
    private static String promise = "";

    public static void main(String[] args) {
        newObject();
        append();
        clearText();
        errorPositionOfWorlds();
        errorPositionOfPlans();
        load();
        about();
        sum();
        size();
        pair();
        surprise();
        setting();
        add();
        resize();
        link();
        drift();
        run();
        weeks();
        set();
        undo();
        rows();
        order();
        way();
        cost();
        costOfText();
        matters();
        worst();
        learnsIn();
        runScript();
        runScriptGroups();
        simulate();
        save();
        restore();
        System.out.println("PromiseTest: " + checked + " checks, " + wrong + " wrong");
        if (wrong != 0) {
            System.exit(1);
        }
    }

    // ---- what the tests are made of

    private static void due(String call, long want, LongSupplier got) {
        checked++;
        String answer;
        try {
            long value = got.getAsLong();
            if (value == want) {
                return;
            }
            answer = "answered " + value;
        } catch (RuntimeException e) {
            answer = "threw " + e;
        }
        wrong++;
        System.out.println(promise + ": " + call + " " + answer + ", due is " + want);
    }

    private static void dueThrow(String call, Class<?> want, LongSupplier got) {
        checked++;
        String answer;
        try {
            answer = "answered " + got.getAsLong();
        } catch (RuntimeException e) {
            if (e.getClass() == want) {
                return;
            }
            answer = "threw " + e;
        }
        wrong++;
        System.out.println(promise + ": " + call + " " + answer + ", due is " + want.getSimpleName());
    }

    private static void write(SurprisedPlans x, String text) {
        x.clearText();
        for (int i = 0; i < text.length(); i++) {
            x.append(text.charAt(i));
        }
    }

    private static SurprisedPlans loaded(String text) {
        SurprisedPlans x = new SurprisedPlans();
        write(x, text);
        x.load();
        return x;
    }

    /** Tables of 1000, 50, 9999, 3 and 400 rows, five links, most of which are guessed wrongly. */
    private static SurprisedPlans five() {
        return loaded("t1000;t50;t9999;t3;t400;p0120,900;p121,1;p23500,5;p0410,10;p341000,1");
    }

    /** Two tables of 100 rows, and a pair guessed and true as told. */
    private static SurprisedPlans two(int guess, int share) {
        SurprisedPlans x = new SurprisedPlans();
        x.add(100);
        x.add(100);
        x.link(0, 1, guess, share);
        return x;
    }

    private static SurprisedPlans seven() {
        SurprisedPlans x = new SurprisedPlans();
        for (int t = 0; t < 7; t++) {
            x.add(9999);
        }
        return x;
    }

    // ---- 1 to 5: text

    private static void newObject() {
        promise = "1 new object";
        SurprisedPlans x = new SurprisedPlans();
        due("NONE", NONE, () -> SurprisedPlans.NONE);
        for (int what = 0; what <= 5; what++) {
            int w = what;
            due("about(" + w + ")", 0, () -> x.about(w));
        }
        for (int what = 0; what <= 3; what++) {
            int w = what;
            due("sum(" + w + ")", 0, () -> x.sum(w));
            due("surprise(0, " + w + ")", NONE, () -> x.surprise(0, w));
        }
        due("setting(0)", 50, () -> x.setting(0));
        due("setting(1)", 10, () -> x.setting(1));
        due("setting(2)", 4, () -> x.setting(2));
        dueThrow("size(0)", INDEX, () -> x.size(0));
        dueThrow("undo()", STATE, () -> x.undo());
        dueThrow("restore(0)", STATE, () -> x.restore(0));
        dueThrow("restore(1)", STATE, () -> x.restore(1));
        due("clearText()", 0, () -> x.clearText());
        due("worst()", NONE, () -> x.worst());
        due("simulate(1, 40)", 0, () -> x.simulate(1, 40));
        SurprisedPlans y = new SurprisedPlans();
        y.add(5);
        due("about(0), behind add on another object", 0, () -> x.about(0));
    }

    private static void append() {
        promise = "2 append";
        SurprisedPlans x = new SurprisedPlans();
        dueThrow("append(-1)", ARGUMENT, () -> x.append(-1));
        dueThrow("append(256)", ARGUMENT, () -> x.append(256));
        dueThrow("append(65536 + 't')", ARGUMENT, () -> x.append(65536 + 't'));
        due("append(0)", 1, () -> x.append(0));
        due("append(255)", 2, () -> x.append(255));
        for (int length = 3; length <= 100; length++) {
            due("append('t')", length, () -> x.append('t'));
        }
        dueThrow("append('t') behind 100", STATE, () -> x.append('t'));
        dueThrow("append(256) behind 100", ARGUMENT, () -> x.append(256));
        dueThrow("append(-1) behind 100", ARGUMENT, () -> x.append(-1));
        due("clearText() behind 100", 100, () -> x.clearText());
        due("append('t') behind clearText", 1, () -> x.append('t'));
        dueThrow("undo(), as append is no action", STATE, () -> x.undo());
    }

    private static void clearText() {
        promise = "3 clearText";
        SurprisedPlans x = new SurprisedPlans();
        write(x, "t15");
        due("clearText()", 3, () -> x.clearText());
        due("clearText() again", 0, () -> x.clearText());
        due("errorPosition(false), empty", 0, () -> x.errorPosition(false));
        x.append('t');
        due("errorPosition(false), t alone", 1, () -> x.errorPosition(false));
    }

    private static void dueError(boolean plan, String text, int want) {
        SurprisedPlans x = new SurprisedPlans();
        write(x, text);
        due("errorPosition(" + plan + ") of \"" + text + "\"", want, () -> x.errorPosition(plan));
        due("errorPosition(" + plan + ") again", want, () -> x.errorPosition(plan));
    }

    private static void errorPositionOfWorlds() {
        promise = "4 errorPosition of worlds";
        dueError(false, "", 0);
        dueError(false, "x", 0);
        dueError(false, "T5", 0);
        dueError(false, ";", 0);
        dueError(false, "5", 0);
        dueError(false, "t", 1);
        dueError(false, "t;", 1);
        dueError(false, "t0", 1);
        dueError(false, "t01", 1);
        dueError(false, "t1", NONE);
        dueError(false, "t9999", NONE);
        dueError(false, "t10000", 5);
        dueError(false, "t1000;", 6);
        dueError(false, "t1000;;", 6);
        dueError(false, "t1;t2", NONE);
        dueError(false, "t1,t2", 2);
        dueError(false, "t1 ", 2);
        dueError(false, "t1t2", 2);
        dueError(false, "t-1", 1);
        dueError(false, "p", 1);
        dueError(false, "p7", 1);
        dueError(false, "p/", 1);
        dueError(false, "p6", 2);
        dueError(false, "p66", 2);
        dueError(false, "p67", 2);
        dueError(false, "p60", 3);
        dueError(false, "p600", 3);
        dueError(false, "p60;", 3);
        dueError(false, "p60,", 3);
        dueError(false, "p601", 4);
        dueError(false, "p601;", 4);
        dueError(false, "p601,", 5);
        dueError(false, "p601,0", 5);
        dueError(false, "p601,;", 5);
        dueError(false, "p601,1", NONE);
        dueError(false, "p061000,1000", NONE);
        dueError(false, "p061001,1000", 6);
        dueError(false, "p06101,1000", NONE);
        dueError(false, "p061010,1000", 6);
        dueError(false, "p0610000,1000", 7);
        dueError(false, "p06999,999", NONE);
        dueError(false, "p069990,999", 6);
        dueError(false, "p061,1001", 8);
        dueError(false, "p061,200", NONE);
        dueError(false, "p061,2000", 8);
        dueError(false, "p061,1,1", 6);
        dueError(false, "p061,1;p10999,1;t5", NONE);
        dueError(false, "p061,1;p10999,1;", 16);
        dueError(false, "0>1", 0);
        dueError(false, "t1234;".repeat(16) + "t999", NONE);
        dueError(false, "t1234;".repeat(16) + "t99;", 100);
        dueError(false, "t1234;".repeat(16) + "t99x", 99);
    }

    private static void errorPositionOfPlans() {
        promise = "4 errorPosition of plans";
        dueError(true, "", 0);
        dueError(true, "0", NONE);
        dueError(true, "6", NONE);
        dueError(true, "7", 0);
        dueError(true, "/", 0);
        dueError(true, ">", 0);
        dueError(true, "0>", 2);
        dueError(true, "0>>", 2);
        dueError(true, "01", 1);
        dueError(true, "0;1", 1);
        dueError(true, "0>0", 2);
        dueError(true, "0>1>0", 4);
        dueError(true, "5>3>6", NONE);
        dueError(true, "6>5>4>3>2>1>0", NONE);
        dueError(true, "6>5>4>3>2>1>0>", 13);
        dueError(true, "6>5>4>3>2>1>0>0", 13);
        dueError(true, "6>5>4>3>2>1>", 12);
        dueError(true, "t5", 0);
    }

    private static void load() {
        promise = "5 load";
        SurprisedPlans x = new SurprisedPlans();
        dueThrow("load() of nothing", STATE, () -> x.load());
        x.add(3);
        x.save(0);
        x.set(0, 7);
        write(x, "t5;");
        dueThrow("load() of t5;", STATE, () -> x.load());
        due("about(0) behind a load that threw", 1, () -> x.about(0));
        due("setting(0) behind a load that threw", 7, () -> x.setting(0));
        due("undo() behind a load that threw", 1, () -> x.undo());
        due("restore(0) behind a load that threw", 0, () -> x.restore(0));

        SurprisedPlans y = five();
        y.set(0, 7);
        y.set(1, 5);
        y.set(2, 9);
        y.run(31);
        y.weeks(2);
        y.save(0);
        y.save(1);
        String text = "p011,2;t10;p011,2;t20;p0130,40;p10300,400;p023,4;t1;t2;t3;t4;t5;t6;t7;p65999,1000";
        write(y, text);
        due("load()", 5, () -> y.load());
        due("about(0)", 7, () -> y.about(0));
        due("about(1)", 2, () -> y.about(1));
        for (int what = 2; what <= 5; what++) {
            int w = what;
            due("about(" + w + ")", 0, () -> y.about(w));
        }
        for (int what = 0; what <= 3; what++) {
            int w = what;
            due("sum(" + w + ")", 0, () -> y.sum(w));
            due("surprise(0, " + w + ")", NONE, () -> y.surprise(0, w));
        }
        due("setting(0)", 50, () -> y.setting(0));
        due("setting(1)", 10, () -> y.setting(1));
        due("setting(2)", 4, () -> y.setting(2));
        due("size(0)", 10, () -> y.size(0));
        due("size(1)", 20, () -> y.size(1));
        due("size(6)", 5, () -> y.size(6));
        due("pair(0, 1, 0)", 300, () -> y.pair(0, 1, 0));
        due("pair(0, 1, 1)", 400, () -> y.pair(0, 1, 1));
        due("pair(0, 1, 3)", NONE, () -> y.pair(0, 1, 3));
        due("pair(0, 1, 4)", 0, () -> y.pair(0, 1, 4));
        due("pair(2, 3, 0)", NONE, () -> y.pair(2, 3, 0));
        due("pair(5, 6, 0)", 999, () -> y.pair(5, 6, 0));
        due("pair(5, 6, 1)", 1000, () -> y.pair(5, 6, 1));
        dueThrow("undo()", STATE, () -> y.undo());
        dueThrow("restore(0)", STATE, () -> y.restore(0));
        dueThrow("restore(1)", STATE, () -> y.restore(1));
        due("load() once more, as the text is kept", 5, () -> y.load());
        due("about(0) behind it", 7, () -> y.about(0));
        write(y, "t1234;".repeat(16) + "t999");
        due("load() of 100 characters", 10, () -> y.load());
        due("size(6)", 1234, () -> y.size(6));
        due("about(1)", 0, () -> y.about(1));
        y.clearText();
        write(y, text);
        due("clearText()", text.length(), () -> y.clearText());
    }

    // ---- 6 to 11: what there is

    private static void about() {
        promise = "6 about";
        SurprisedPlans x = five();
        dueThrow("about(-1)", ARGUMENT, () -> x.about(-1));
        dueThrow("about(6)", ARGUMENT, () -> x.about(6));
        due("about(0)", 5, () -> x.about(0));
        due("about(1)", 5, () -> x.about(1));
        x.run(31);
        x.run(7);
        x.weeks(3);
        due("about(2)", 3, () -> x.about(2));
        due("about(3)", 3, () -> x.about(3));
        due("about(4)", 2, () -> x.about(4));
        due("about(5)", 3, () -> x.about(5));
        x.weeks(2);
        due("about(2) when all are forgotten", 0, () -> x.about(2));
        due("about(3)", 5, () -> x.about(3));
        due("about(5) still", 3, () -> x.about(5));
    }

    private static void sum() {
        promise = "7 sum";
        SurprisedPlans x = five();
        dueThrow("sum(-1)", ARGUMENT, () -> x.sum(-1));
        dueThrow("sum(4)", ARGUMENT, () -> x.sum(4));
        x.run(31);
        due("sum(0)", 577133, () -> x.sum(0));
        due("sum(1)", 563519, () -> x.sum(1));
        due("sum(2)", 577133, () -> x.sum(2));
        due("sum(3)", 563519, () -> x.sum(3));
        x.run(31);
        due("sum(0)", 577133 + 577133 - 563519, () -> x.sum(0));
        due("sum(1)", 563519, () -> x.sum(1));
        due("sum(2)", 577133 - 563519, () -> x.sum(2));
        due("sum(3)", 0, () -> x.sum(3));
        x.run(1);
        due("sum(0) behind a run that costs nothing", 577133 + 577133 - 563519, () -> x.sum(0));
        due("sum(2) behind a run that costs nothing", 0, () -> x.sum(2));
    }

    private static void size() {
        promise = "8 size";
        SurprisedPlans x = five();
        due("size(0)", 1000, () -> x.size(0));
        due("size(4)", 400, () -> x.size(4));
        dueThrow("size(5)", INDEX, () -> x.size(5));
        dueThrow("size(-1)", INDEX, () -> x.size(-1));
        dueThrow("size(7)", INDEX, () -> x.size(7));
    }

    private static void pair() {
        promise = "9 pair";
        SurprisedPlans x = five();
        x.set(1, 5);
        x.run(3);
        x.weeks(2);
        long[] want = {20, 900, 460, 2, 1};
        for (int what = 0; what <= 4; what++) {
            int w = what;
            due("pair(0, 1, " + w + ")", want[w], () -> x.pair(0, 1, w));
            due("pair(1, 0, " + w + ")", want[w], () -> x.pair(1, 0, w));
            due("pair(0, 2, " + w + "), not linked", NONE, () -> x.pair(0, 2, w));
        }
        due("pair(2, 3, 2), without a memory", 500, () -> x.pair(2, 3, 2));
        due("pair(2, 3, 3), without a memory", NONE, () -> x.pair(2, 3, 3));
        due("pair(2, 3, 4), without a surprise", 0, () -> x.pair(2, 3, 4));
        dueThrow("pair(0, 1, 5)", ARGUMENT, () -> x.pair(0, 1, 5));
        dueThrow("pair(0, 1, -1)", ARGUMENT, () -> x.pair(0, 1, -1));
        dueThrow("pair(0, 2, 5), not linked", ARGUMENT, () -> x.pair(0, 2, 5));
        dueThrow("pair(1, 1, 0)", ARGUMENT, () -> x.pair(1, 1, 0));
        dueThrow("pair(5, 5, 0)", INDEX, () -> x.pair(5, 5, 0));
        dueThrow("pair(0, 5, 9)", INDEX, () -> x.pair(0, 5, 9));
        dueThrow("pair(5, 0, 0)", INDEX, () -> x.pair(5, 0, 0));
        dueThrow("pair(-1, 0, 0)", INDEX, () -> x.pair(-1, 0, 0));
        dueThrow("pair(0, -1, 0)", INDEX, () -> x.pair(0, -1, 0));
    }

    private static void surprise() {
        promise = "10 surprise";
        SurprisedPlans x = two(500, 1000);
        x.add(100);
        x.link(2, 1, 100, 1);
        x.set(0, 1);
        x.set(1, 1);
        x.run(7);
        x.weeks(3);
        x.run(3);
        long[][] want = {{1, 550, 1000, 3}, {12, 100, 1, 0}, {1, 500, 1000, 0}, {NONE, NONE, NONE, NONE}};
        for (int k = 0; k < want.length; k++) {
            for (int what = 0; what <= 3; what++) {
                int i = k;
                int w = what;
                due("surprise(" + i + ", " + w + ")", want[i][w], () -> x.surprise(i, w));
            }
        }
        for (int i = 0; i < 10; i++) {
            x.run(6);
        }
        due("about(5)", 13, () -> x.about(5));
        due("surprise(9, 0), the first of the ten runs", 12, () -> x.surprise(9, 0));
        due("surprise(9, 1), the first of the ten runs", 91, () -> x.surprise(9, 1));
        due("surprise(8, 1)", 82, () -> x.surprise(8, 1));
        dueThrow("surprise(10, 0)", ARGUMENT, () -> x.surprise(10, 0));
        dueThrow("surprise(-1, 0)", ARGUMENT, () -> x.surprise(-1, 0));
        dueThrow("surprise(0, 4)", ARGUMENT, () -> x.surprise(0, 4));
        dueThrow("surprise(0, -1)", ARGUMENT, () -> x.surprise(0, -1));
        x.undo();
        due("surprise(0, 1) when the last run is undone", two12Believed(9), () -> x.surprise(0, 1));
        x.drift(0, 1, 1);
        x.run(1);
        x.run(3);
        due("surprise(0, 0) behind undo and another run", 1, () -> x.surprise(0, 0));
        due("surprise(1, 1) behind undo and another run", two12Believed(9), () -> x.surprise(1, 1));
    }

    /** What was believed before the k-th run of a pair guessed at 100, true at 1, with the trust 1, one run before. */
    private static int two12Believed(int k) {
        int believed = 91;
        for (int i = 1; i < k; i++) {
            believed -= Math.max(1, (believed - 1) / 10);
        }
        return believed;
    }

    private static void setting() {
        promise = "11 setting";
        SurprisedPlans x = new SurprisedPlans();
        x.set(2, 0);
        due("setting(0)", 50, () -> x.setting(0));
        due("setting(2)", 0, () -> x.setting(2));
        dueThrow("setting(3)", ARGUMENT, () -> x.setting(3));
        dueThrow("setting(-1)", ARGUMENT, () -> x.setting(-1));
    }

    // ---- 12 to 19: actions

    private static void add() {
        promise = "12 add";
        SurprisedPlans x = new SurprisedPlans();
        dueThrow("add(0)", ARGUMENT, () -> x.add(0));
        dueThrow("add(10000)", ARGUMENT, () -> x.add(10000));
        dueThrow("undo(), behind adds that threw", STATE, () -> x.undo());
        due("add(1)", 0, () -> x.add(1));
        due("add(9999)", 1, () -> x.add(9999));
        for (int t = 2; t < 7; t++) {
            due("add(5)", t, () -> x.add(5));
        }
        dueThrow("add(5), an eighth table", STATE, () -> x.add(5));
        dueThrow("add(0), an eighth table", ARGUMENT, () -> x.add(0));
        due("about(0)", 7, () -> x.about(0));
        due("about(1)", 0, () -> x.about(1));
        due("size(1)", 9999, () -> x.size(1));
    }

    private static void resize() {
        promise = "13 resize";
        SurprisedPlans x = five();
        due("resize(4, 1)", 400, () -> x.resize(4, 1));
        due("resize(4, 9999)", 1, () -> x.resize(4, 9999));
        due("size(4)", 9999, () -> x.size(4));
        due("size(3)", 3, () -> x.size(3));
        dueThrow("resize(4, 0)", ARGUMENT, () -> x.resize(4, 0));
        dueThrow("resize(4, 10000)", ARGUMENT, () -> x.resize(4, 10000));
        dueThrow("resize(5, 0)", INDEX, () -> x.resize(5, 0));
        dueThrow("resize(-1, 5)", INDEX, () -> x.resize(-1, 5));
        due("undo()", 1, () -> x.undo());
        due("size(4) behind undo", 1, () -> x.size(4));
        SurprisedPlans y = seven();
        due("resize(6, 5)", 9999, () -> y.resize(6, 5));
        due("size(6)", 5, () -> y.size(6));
    }

    private static void link() {
        promise = "14 link";
        SurprisedPlans x = new SurprisedPlans();
        x.add(10);
        x.add(10);
        x.add(10);
        due("link(2, 0, 1, 1000)", 1, () -> x.link(2, 0, 1, 1000));
        due("link(1, 2, 1000, 1)", 2, () -> x.link(1, 2, 1000, 1));
        due("link(0, 1, 5, 5)", 3, () -> x.link(0, 1, 5, 5));
        due("undo() of link", 5, () -> x.undo());
        due("pair(0, 1, 0) behind undo", NONE, () -> x.pair(0, 1, 0));
        due("pair(1, 2, 1) behind undo", 1, () -> x.pair(1, 2, 1));
        due("pair(0, 2, 0)", 1, () -> x.pair(0, 2, 0));
        due("pair(0, 2, 1)", 1000, () -> x.pair(0, 2, 1));
        x.run(7);
        due("about(2)", 2, () -> x.about(2));
        due("link(0, 2, 300, 800)", 2, () -> x.link(0, 2, 300, 800));
        due("about(2), as a memory is forgotten", 1, () -> x.about(2));
        due("pair(0, 2, 2)", 300, () -> x.pair(0, 2, 2));
        due("pair(0, 2, 3)", NONE, () -> x.pair(0, 2, 3));
        due("pair(0, 2, 4), the surprises stay", 1, () -> x.pair(0, 2, 4));
        dueThrow("link(0, 0, 1, 1)", ARGUMENT, () -> x.link(0, 0, 1, 1));
        dueThrow("link(3, 3, 1, 1)", INDEX, () -> x.link(3, 3, 1, 1));
        dueThrow("link(0, 3, 0, 0)", INDEX, () -> x.link(0, 3, 0, 0));
        dueThrow("link(-1, 0, 1, 1)", INDEX, () -> x.link(-1, 0, 1, 1));
        dueThrow("link(0, 1, 0, 1)", ARGUMENT, () -> x.link(0, 1, 0, 1));
        dueThrow("link(0, 1, 1001, 1)", ARGUMENT, () -> x.link(0, 1, 1001, 1));
        dueThrow("link(0, 1, 1, 0)", ARGUMENT, () -> x.link(0, 1, 1, 0));
        dueThrow("link(0, 1, 1, 1001)", ARGUMENT, () -> x.link(0, 1, 1, 1001));
        due("about(1) behind links that threw", 2, () -> x.about(1));
    }

    private static void drift() {
        promise = "15 drift";
        SurprisedPlans x = five();
        x.run(3);
        due("drift(1, 0, 1)", 900, () -> x.drift(1, 0, 1));
        due("drift(0, 1, 1000)", 1, () -> x.drift(0, 1, 1000));
        due("pair(0, 1, 1)", 1000, () -> x.pair(0, 1, 1));
        due("pair(0, 1, 2), the memory stays", 900, () -> x.pair(0, 1, 2));
        due("pair(0, 1, 0)", 20, () -> x.pair(0, 1, 0));
        dueThrow("drift(0, 2, 5), not linked", STATE, () -> x.drift(0, 2, 5));
        dueThrow("drift(0, 2, 0), not linked", ARGUMENT, () -> x.drift(0, 2, 0));
        dueThrow("drift(0, 1, 0)", ARGUMENT, () -> x.drift(0, 1, 0));
        dueThrow("drift(0, 1, 1001)", ARGUMENT, () -> x.drift(0, 1, 1001));
        dueThrow("drift(1, 1, 5)", ARGUMENT, () -> x.drift(1, 1, 5));
        dueThrow("drift(5, 5, 0)", INDEX, () -> x.drift(5, 5, 0));
        dueThrow("drift(0, -1, 5)", INDEX, () -> x.drift(0, -1, 5));
        due("undo(), behind drifts that threw", 2, () -> x.undo());
        due("pair(0, 1, 1) behind undo", 1, () -> x.pair(0, 1, 1));
    }

    private static void run() {
        promise = "16 run";
        SurprisedPlans x = five();
        dueThrow("run(0)", ARGUMENT, () -> x.run(0));
        dueThrow("run(32)", INDEX, () -> x.run(32));
        dueThrow("run(-1)", INDEX, () -> x.run(-1));
        dueThrow("run(MIN_VALUE)", INDEX, () -> x.run(Integer.MIN_VALUE));
        dueThrow("run(128)", INDEX, () -> x.run(128));
        dueThrow("undo(), behind runs that threw", STATE, () -> x.undo());
        due("run(31)", 3, () -> x.run(31));
        due("run(31) again", 0, () -> x.run(31));
        due("about(4)", 2, () -> x.about(4));
        due("run(16), one table", 0, () -> x.run(16));

        SurprisedPlans edge = two(500, 549);
        due("run(3), a difference of 49", 0, () -> edge.run(3));
        due("pair(0, 1, 3)", NONE, () -> edge.pair(0, 1, 3));
        edge.drift(0, 1, 550);
        due("run(1), which has not the pair", 0, () -> edge.run(1));
        due("run(3), a difference of 50", 1, () -> edge.run(3));
        due("pair(0, 1, 2), the whole trust", 550, () -> edge.pair(0, 1, 2));
        edge.drift(0, 1, 501);
        edge.weeks(4);
        due("pair(0, 1, 3) before", 4, () -> edge.pair(0, 1, 3));
        due("run(3), no surprise", 0, () -> edge.run(3));
        due("pair(0, 1, 3), young again", 0, () -> edge.pair(0, 1, 3));
        due("pair(0, 1, 2), unchanged", 550, () -> edge.pair(0, 1, 2));
        edge.set(1, 3);
        edge.drift(0, 1, 441);
        edge.weeks(2);
        due("run(3), a difference of 109 downwards", 1, () -> edge.run(3));
        due("pair(0, 1, 2), 32 nearer", 518, () -> edge.pair(0, 1, 2));
        due("pair(0, 1, 3)", 0, () -> edge.pair(0, 1, 3));
        edge.set(0, 1);
        edge.drift(0, 1, 519);
        due("run(3), a difference of 1", 1, () -> edge.run(3));
        due("pair(0, 1, 2), at least 1 nearer", 519, () -> edge.pair(0, 1, 2));
        due("run(3), no difference", 0, () -> edge.run(3));

        // Loops are chosen for 1 row believed, and cost 10^12 rows times 9999 in truth: too much for a step.
        SurprisedPlans dear = seven();
        for (int high = 1; high < 7; high++) {
            for (int low = 0; low < high; low++) {
                dear.link(low, high, 1, 1000);
            }
        }
        // Rows by thousandths: 9999, 99980, 999, and then 1; by wholes: 9999, 99980001, 999700029999, and then 10^12.
        long believed = (59994L + 99980) + (329937L + 999) + (32994L + 1) + 3 * (9999L + 1);
        long truth = (59994L + 99980001L) + (3 * (99980001L + 9999) + 999700029999L)
                + (3 * (999700029999L + 9999) + 1000000000000L) + 3 * 1000000000000000L;
        long best = truth - 3 * 1000000000000000L + 3 * (3 * (1000000000000L + 9999) + 1000000000000L);
        due("cost(127, 0)", believed, () -> dear.cost(127, 0));
        due("cost(127, 1)", truth, () -> dear.cost(127, 1));
        due("cost(127, 2)", truth - best, () -> dear.cost(127, 2));
        due("run(127)", 21, () -> dear.run(127));
        due("sum(2)", truth, () -> dear.sum(2));
        due("sum(3)", truth - best, () -> dear.sum(3));
        due("surprise(0, 0), the pairs ascending", 56, () -> dear.surprise(0, 0));
        due("surprise(1, 0), the pairs ascending", 46, () -> dear.surprise(1, 0));
        due("surprise(2, 0), the pairs ascending", 45, () -> dear.surprise(2, 0));
        due("surprise(3, 0), the pairs ascending", 36, () -> dear.surprise(3, 0));
    }

    private static void weeks() {
        promise = "17 weeks";
        SurprisedPlans x = two(1, 900);
        dueThrow("weeks(0)", ARGUMENT, () -> x.weeks(0));
        dueThrow("weeks(21)", ARGUMENT, () -> x.weeks(21));
        due("weeks(20)", 0, () -> x.weeks(20));
        x.run(3);
        due("weeks(4)", 1, () -> x.weeks(4));
        due("pair(0, 1, 3)", 4, () -> x.pair(0, 1, 3));
        due("pair(0, 1, 2)", 900, () -> x.pair(0, 1, 2));
        due("weeks(1)", 0, () -> x.weeks(1));
        due("pair(0, 1, 3), forgotten", NONE, () -> x.pair(0, 1, 3));
        due("pair(0, 1, 2), the guess again", 1, () -> x.pair(0, 1, 2));
        due("about(3)", 25, () -> x.about(3));
        due("run(3), a surprise again", 1, () -> x.run(3));
        due("surprise(0, 3)", 25, () -> x.surprise(0, 3));
        due("weeks(5) at once", 0, () -> x.weeks(5));
    }

    private static void set() {
        promise = "18 set";
        SurprisedPlans x = two(500, 400);
        int[] least = {1, 1, 0};
        int[] most = {1000, 10, 20};
        int[] first = {50, 10, 4};
        for (int what = 0; what <= 2; what++) {
            int w = what;
            dueThrow("set(" + w + ", too little)", ARGUMENT, () -> x.set(w, least[w] - 1));
            dueThrow("set(" + w + ", too much)", ARGUMENT, () -> x.set(w, most[w] + 1));
            due("set(" + w + ", the least)", first[w], () -> x.set(w, least[w]));
            due("set(" + w + ", the most)", least[w], () -> x.set(w, most[w]));
            due("setting(" + w + ")", most[w], () -> x.setting(w));
        }
        dueThrow("set(3, 1)", ARGUMENT, () -> x.set(3, 1));
        dueThrow("set(-1, 1)", ARGUMENT, () -> x.set(-1, 1));
        due("undo(), behind sets that threw", 8, () -> x.undo());
        SurprisedPlans y = two(500, 400);
        y.run(3);
        y.weeks(3);
        y.set(2, 1);
        due("about(2), forgotten with the next week only", 1, () -> y.about(2));
        due("weeks(1)", 0, () -> y.weeks(1));
        y.set(2, 0);
        y.run(3);
        due("about(2), the horizon 0", 1, () -> y.about(2));
        due("weeks(1), the horizon 0", 0, () -> y.weeks(1));
    }

    private static void undo() {
        promise = "19 undo";
        SurprisedPlans x = new SurprisedPlans();
        x.add(1);
        for (int i = 2; i <= 20; i++) {
            x.resize(0, i);
        }
        for (int left = 13; left >= 0; left--) {
            int l = left;
            due("undo()", left, () -> x.undo());
            due("size(0) behind undo", 6 + left, () -> x.size(0));
        }
        dueThrow("undo() behind the last", STATE, () -> x.undo());
        due("size(0) then", 6, () -> x.size(0));
        x.resize(0, 6);
        due("undo() of what made nothing different", 0, () -> x.undo());

        SurprisedPlans y = five();
        y.set(0, 10);
        y.run(31);
        y.weeks(2);
        write(y, "t5");
        y.save(1);
        y.undo();
        due("about(3)", 0, () -> y.about(3));
        due("pair(0, 1, 3)", 0, () -> y.pair(0, 1, 3));
        due("undo()", 1, () -> y.undo());
        due("about(4)", 0, () -> y.about(4));
        due("about(5)", 0, () -> y.about(5));
        due("about(2)", 0, () -> y.about(2));
        due("sum(0)", 0, () -> y.sum(0));
        due("pair(0, 1, 4)", 0, () -> y.pair(0, 1, 4));
        due("surprise(0, 0)", NONE, () -> y.surprise(0, 0));
        due("setting(0)", 10, () -> y.setting(0));
        due("undo()", 0, () -> y.undo());
        due("setting(0)", 50, () -> y.setting(0));
        due("restore(1), which undo left", 2, () -> y.restore(1));
        due("clearText(), which undo left", 2, () -> y.clearText());
        for (int i = 1; i <= 3; i++) {
            y.add(1);
            y.link(0, 5, 1, 1);
            int links = 6;
            due("about(1)", links, () -> y.about(1));
            due("undo() of link", 1, () -> y.undo());
            due("undo() of add", 0, () -> y.undo());
        }
        due("about(0)", 5, () -> y.about(0));
        due("about(1)", 5, () -> y.about(1));
    }

    // ---- 20 to 27: what is chosen, and what would be

    private static void rows() {
        promise = "20 rows";
        SurprisedPlans x = five();
        due("rows(0, 0)", 1, () -> x.rows(0, 0));
        due("rows(0, 2)", 1, () -> x.rows(0, 2));
        due("rows(1, 1)", 1000, () -> x.rows(1, 1));
        due("rows(3, 0)", 1000, () -> x.rows(3, 0));
        due("rows(3, 1)", 1000, () -> x.rows(3, 1));
        due("rows(3, 2)", 45000, () -> x.rows(3, 2));
        x.set(1, 5);
        x.run(3);
        due("rows(3, 0) behind a run", 1000, () -> x.rows(3, 0));
        due("rows(3, 1) behind a run", 1000 * 50 * 460 / 1000, () -> x.rows(3, 1));
        due("rows(5, 0), not linked", 9999000, () -> x.rows(5, 0));
        dueThrow("rows(32, 0)", INDEX, () -> x.rows(32, 0));
        dueThrow("rows(-1, 0)", INDEX, () -> x.rows(-1, 0));
        dueThrow("rows(32, 3)", INDEX, () -> x.rows(32, 3));
        dueThrow("rows(3, 3)", ARGUMENT, () -> x.rows(3, 3));
        dueThrow("rows(3, -1)", ARGUMENT, () -> x.rows(3, -1));

        SurprisedPlans few = loaded("t7;t3;t2;p01100,1;p12500,1;p021,1");
        // 7 * 3 = 21, by 100: 2; times 2 = 4, by 1: 0, at least 1; by 500: 0, at least 1.
        due("rows(7, 0)", 1, () -> few.rows(7, 0));
        due("rows(3, 0)", 2, () -> few.rows(3, 0));
        SurprisedPlans down = loaded("t10;t10;t19;p02150,1;p12700,1");
        // 10 * 10 * 19 = 1900, by 150: 285, by 700: 199 (by 700 first, it would be 1330, and then 199).
        due("rows(7, 0)", 199, () -> down.rows(7, 0));
        SurprisedPlans turn = loaded("t3;t3;t3;p02500,1;p12250,1");
        // 27, by 500: 13, by 250: 3.
        due("rows(7, 0)", 3, () -> turn.rows(7, 0));
        SurprisedPlans many = seven();
        due("rows(7, 1)", 999700029999L, () -> many.rows(7, 1));
        due("rows(15, 1)", 1000000000000L, () -> many.rows(15, 1));
        many.link(2, 3, 500, 500);
        due("rows(15, 1)", 500000000000L, () -> many.rows(15, 1));
        due("rows(127, 1)", 1000000000000L, () -> many.rows(127, 1));
        many.link(5, 6, 1, 999);
        due("rows(127, 0)", 1000000000L, () -> many.rows(127, 0));
        due("rows(127, 2)", 999000000000L, () -> many.rows(127, 2));
    }

    private static void dueOrder(SurprisedPlans x, int set, int kind, int... want) {
        for (int k = 0; k < want.length; k++) {
            int i = k;
            due("order(" + set + ", " + kind + ", " + i + ")", want[i], () -> x.order(set, kind, i));
        }
        due("order(.., behind the last)", NONE, () -> x.order(set, kind, want.length));
        due("order(.., far behind the last)", NONE, () -> x.order(set, kind, Integer.MAX_VALUE));
    }

    private static void order() {
        promise = "21 order";
        SurprisedPlans x = five();
        dueOrder(x, 0, 1);
        dueOrder(x, 8, 1, 3);
        dueOrder(x, 31, 0, 1, 3, 0, 4, 2);
        dueOrder(x, 31, 1, 1, 3, 0, 4, 2);
        dueOrder(x, 31, 2, 3, 4, 2, 1, 0);
        x.run(31);
        dueOrder(x, 31, 0, 1, 3, 0, 4, 2);
        dueOrder(x, 31, 1, 3, 4, 2, 1, 0);
        dueThrow("order(32, 0, 0)", INDEX, () -> x.order(32, 0, 0));
        dueThrow("order(-1, 3, -1)", INDEX, () -> x.order(-1, 3, -1));
        dueThrow("order(31, 3, 0)", ARGUMENT, () -> x.order(31, 3, 0));
        dueThrow("order(31, -1, 0)", ARGUMENT, () -> x.order(31, -1, 0));
        dueThrow("order(31, 0, -1)", ARGUMENT, () -> x.order(31, 0, -1));
        // Of plans that cost the same, the one whose first table is the lowest, then the second one.
        dueOrder(loaded("t5;t5;t5;t5;t5;t5;t5"), 127, 1, 0, 1, 2, 3, 4, 5, 6);
        dueOrder(loaded("t10;t10;t10;t10"), 14, 1, 1, 2, 3);
        // 2 with 1 first is the cheapest; the order of the two of them does not matter.
        dueOrder(loaded("t100;t9;t8"), 7, 1, 1, 2, 0);
        dueOrder(loaded("t100;t8;t9"), 7, 1, 1, 2, 0);
    }

    private static void way() {
        promise = "22 way";
        SurprisedPlans x = five();
        due("way(31, 1)", 0, () -> x.way(31, 1));
        due("way(31, 2)", 1, () -> x.way(31, 2));
        due("way(31, 4)", 1, () -> x.way(31, 4));
        due("way(31, 5)", NONE, () -> x.way(31, 5));
        due("way(31, MAX_VALUE)", NONE, () -> x.way(31, Integer.MAX_VALUE));
        due("way(1, 1)", NONE, () -> x.way(1, 1));
        due("way(0, 1)", NONE, () -> x.way(0, 1));
        dueThrow("way(31, 0)", ARGUMENT, () -> x.way(31, 0));
        dueThrow("way(31, -1)", ARGUMENT, () -> x.way(31, -1));
        dueThrow("way(32, 0)", INDEX, () -> x.way(32, 0));
        dueThrow("way(-1, 1)", INDEX, () -> x.way(-1, 1));
        // 6 * 6 = 3 * (6 + 6): of like ones loops. 6 * 7 = 42 is more than 3 * (6 + 7) = 39. 3 * 5 < 3 * 8.
        due("way(3, 1) of 6 and 6", 0, () -> loaded("t6;t6").way(3, 1));
        due("way(3, 1) of 6 and 7", 1, () -> loaded("t6;t7").way(3, 1));
        due("way(3, 1) of 3 and 5", 0, () -> loaded("t3;t5").way(3, 1));
        SurprisedPlans y = loaded("t6;t7;t9999;p011,1000");
        due("way(7, 2) by what is believed", 0, () -> y.way(7, 2));
        y.run(7);
        due("way(7, 2) behind a run", 1, () -> y.way(7, 2));
    }

    private static void cost() {
        promise = "23 cost";
        SurprisedPlans x = five();
        for (int what = 0; what <= 2; what++) {
            int w = what;
            due("cost(0, " + w + ")", 0, () -> x.cost(0, w));
            due("cost(4, " + w + ")", 0, () -> x.cost(4, w));
        }
        due("cost(31, 0)", 154939, () -> x.cost(31, 0));
        due("cost(31, 1)", 577133, () -> x.cost(31, 1));
        due("cost(31, 2)", 563519, () -> x.cost(31, 2));
        due("about(4), as nothing is run", 0, () -> x.about(4));
        // The list costs 3 * 1050; by loops it would be 50000.
        due("cost(3, 0)", 3150 + 1000, () -> x.cost(3, 0));
        due("cost(3, 1)", 3150 + 45000, () -> x.cost(3, 1));
        due("cost(3, 2)", 0, () -> x.cost(3, 2));
        dueThrow("cost(32, 0)", INDEX, () -> x.cost(32, 0));
        dueThrow("cost(-1, 3)", INDEX, () -> x.cost(-1, 3));
        dueThrow("cost(31, 3)", ARGUMENT, () -> x.cost(31, 3));
        dueThrow("cost(31, -1)", ARGUMENT, () -> x.cost(31, -1));
        // Believed: 1 row behind the first two, and so loops; in truth 42, for which a list would be cheaper.
        SurprisedPlans y = loaded("t6;t7;t9999;p011,1000");
        due("cost(7, 0)", 39 + 1 + 9999 + 9999, () -> y.cost(7, 0));
        due("cost(7, 1)", 39 + 42 + 42 * 9999 + 42 * 9999, () -> y.cost(7, 1));
        due("cost(7, 2)", 42 * 9999 - 3 * (42 + 9999), () -> y.cost(7, 2));
    }

    private static void costOfText() {
        promise = "24 costOfText";
        SurprisedPlans x = five();
        dueThrow("costOfText(0) of a world", STATE, () -> x.costOfText(0));
        write(x, "1>3>0>4>2");
        due("costOfText(0)", 154939, () -> x.costOfText(0));
        due("costOfText(1)", 154939, () -> x.costOfText(1));
        due("costOfText(2)", 577133, () -> x.costOfText(2));
        dueThrow("costOfText(3)", ARGUMENT, () -> x.costOfText(3));
        dueThrow("costOfText(-1)", ARGUMENT, () -> x.costOfText(-1));
        x.run(31);
        due("costOfText(0) behind a run", 154939, () -> x.costOfText(0));
        due("costOfText(1) behind a run", 577133, () -> x.costOfText(1));
        write(x, "0>1");
        due("costOfText(0) of 0>1", 3150 + 1000, () -> x.costOfText(0));
        write(x, "4");
        due("costOfText(0) of one table", 0, () -> x.costOfText(0));
        write(x, "5");
        dueThrow("costOfText(0) of a table that there is not", STATE, () -> x.costOfText(0));
        write(x, "0>");
        dueThrow("costOfText(0) of 0>", STATE, () -> x.costOfText(0));
        dueThrow("costOfText(3) of 0>", ARGUMENT, () -> x.costOfText(3));
        x.clearText();
        dueThrow("costOfText(0) of nothing", STATE, () -> x.costOfText(0));
        SurprisedPlans y = loaded("t6;t7;t9999;p011,1000");
        write(y, "1>0>2");
        due("costOfText(0)", 39 + 1 + 9999 + 9999, () -> y.costOfText(0));
        due("costOfText(2), with ways by the same shares", 39 + 42 + 3 * (42 + 9999) + 42 * 9999, () -> y.costOfText(2));
    }

    private static void matters() {
        promise = "25 matters";
        SurprisedPlans x = five();
        due("matters(2, 3, 31), without a memory", 0, () -> x.matters(2, 3, 31));
        x.run(31);
        due("matters(2, 3, 31)", 1, () -> x.matters(2, 3, 31));
        due("matters(3, 2, 31)", 1, () -> x.matters(3, 2, 31));
        due("matters(0, 1, 31)", 0, () -> x.matters(0, 1, 31));
        due("matters(2, 3, 12), two tables", 0, () -> x.matters(2, 3, 12));
        due("matters(2, 3, 7), which has not the pair", 0, () -> x.matters(2, 3, 7));
        due("matters(2, 3, 0)", 0, () -> x.matters(2, 3, 0));
        due("matters(0, 2, 31), not linked", 0, () -> x.matters(0, 2, 31));
        due("about(2), as nothing is forgotten", 3, () -> x.about(2));
        dueThrow("matters(2, 2, 31)", ARGUMENT, () -> x.matters(2, 2, 31));
        dueThrow("matters(2, 2, 32)", INDEX, () -> x.matters(2, 2, 32));
        dueThrow("matters(2, 3, -1)", INDEX, () -> x.matters(2, 3, -1));
        dueThrow("matters(5, 5, 31)", INDEX, () -> x.matters(5, 5, 31));
        dueThrow("matters(2, 5, 31)", INDEX, () -> x.matters(2, 5, 31));
        dueThrow("matters(-1, 2, 31)", INDEX, () -> x.matters(-1, 2, 31));
    }

    private static void worst() {
        promise = "26 worst";
        SurprisedPlans x = five();
        due("worst()", 34, () -> x.worst());
        x.run(31);
        due("worst(), all believed rightly: the first one", 1, () -> x.worst());
        x.drift(1, 2, 11);
        x.drift(0, 4, 20);
        due("worst(), of like ones the first one", 4, () -> x.worst());
        x.drift(1, 2, 12);
        due("worst()", 12, () -> x.worst());
        SurprisedPlans y = loaded("t1;t1;t1");
        due("worst(), no pair linked", NONE, () -> y.worst());
        y.link(2, 1, 5, 5);
        due("worst(), one pair linked", 12, () -> y.worst());
        SurprisedPlans z = loaded("t1;t1;t1;t1;p03100,200;p12200,100");
        due("worst(), by the lower table first", 3, () -> z.worst());
    }

    private static void learnsIn() {
        promise = "27 learnsIn";
        SurprisedPlans x = five();
        due("learnsIn(31)", 1, () -> x.learnsIn(31));
        due("learnsIn(7)", 0, () -> x.learnsIn(7));
        due("learnsIn(1)", 0, () -> x.learnsIn(1));
        due("about(4), as nothing is run", 0, () -> x.about(4));
        due("about(2), as nothing is learned", 0, () -> x.about(2));
        dueThrow("learnsIn(0)", ARGUMENT, () -> x.learnsIn(0));
        dueThrow("learnsIn(32)", INDEX, () -> x.learnsIn(32));
        dueThrow("learnsIn(-1)", INDEX, () -> x.learnsIn(-1));
        // Loops for the third table are dear in truth. A list is chosen when more than 3 rows are believed behind the
        // first two, of 42 by the believed share, which is 100 thousandths behind one run.
        SurprisedPlans y = loaded("t6;t7;t9999;p011,1000");
        y.set(1, 1);
        due("learnsIn(7)", 1, () -> y.learnsIn(7));
        SurprisedPlans z = loaded("t1000;t1000;t9999;p011,400");
        z.set(0, 400);
        due("learnsIn(7), a difference that is no surprise", 0, () -> z.learnsIn(7));
        SurprisedPlans deaf = loaded("t6;t7;t9999;p011,1000");
        deaf.set(0, 1000);
        due("learnsIn(7), which is never learned", NONE, () -> deaf.learnsIn(7));
        deaf.set(0, 999);
        deaf.set(1, 1);
        due("learnsIn(7), behind one surprise", 1, () -> deaf.learnsIn(7));
        due("learnsIn(7), 29", 29, () -> slow(189).learnsIn(7));
        due("learnsIn(7), 30", 30, () -> slow(190).learnsIn(7));
        due("learnsIn(7), it would be 31", NONE, () -> slow(191).learnsIn(7));
        due("learnsIn(7), one run later", 30, () -> ran(slow(191)).learnsIn(7));
    }

    /**
     * 0 > 1 > 2 is chosen as long as the pair of 0 and 1 is believed at most 5 * size thousandths. It is guessed at 1,
     * is 1000, and comes nearer by a tenth in each run: it is 948 behind 29 runs, 953 behind 30, 957 behind 31.
     */
    private static SurprisedPlans slow(int size) {
        SurprisedPlans x = new SurprisedPlans();
        x.add(100);
        x.add(100);
        x.add(size);
        x.link(0, 1, 1, 1000);
        x.link(0, 2, 500, 500);
        x.link(1, 2, 500, 500);
        x.set(0, 1);
        x.set(1, 1);
        return x;
    }

    private static SurprisedPlans ran(SurprisedPlans x) {
        x.run(7);
        return x;
    }

    private static void runScript() {
        promise = "28 runScript";
        SurprisedPlans x = five();
        x.run(31);
        x.weeks(3);
        due("runScript(1, 0)", 0, () -> x.runScript(1, 0));
        dueThrow("runScript(0, 0)", ARGUMENT, () -> x.runScript(0, 0));
        dueThrow("runScript(4, 0)", ARGUMENT, () -> x.runScript(4, 0));
        dueThrow("runScript(1, -1)", ARGUMENT, () -> x.runScript(1, -1));
        dueThrow("runScript(1, 1000000)", ARGUMENT, () -> x.runScript(1, 1000000));
        due("runScript(1, 999999)", 0, () -> x.runScript(1, 999999));
        dueThrow("runScript(2, 10^12)", ARGUMENT, () -> x.runScript(2, 1000000000000L));
        due("runScript(2, 10^12 - 1)", 0, () -> x.runScript(2, 999999999999L));
        dueThrow("runScript(3, 10^18)", ARGUMENT, () -> x.runScript(3, 1000000000000000000L));
        dueThrow("runScript(3, MAX_VALUE)", ARGUMENT, () -> x.runScript(3, Long.MAX_VALUE));
        due("runScript(3, 10^18 - 1)", 0, () -> x.runScript(3, 999999999999999999L));
        due("runScript(2, 1), the first of them is 0", 0, () -> x.runScript(2, 800000));
        due("runScript(1, 100031)", NONE, () -> x.runScript(1, 100031));
        due("runScript(3, ..), all succeed", NONE, () -> x.runScript(3, 100031_200001_800003L));
        due("runScript(3, ..), the last one fails", 2, () -> x.runScript(3, 100031_200001_800004L));
        due("runScript(3, ..), the second one fails", 1, () -> x.runScript(3, 100031_200000_800003L));
        due("about(4), as it is a copy", 1, () -> x.about(4));
        due("about(3), as it is a copy", 3, () -> x.about(3));
        due("undo(), as it is no action", 1, () -> x.undo());
    }

    private static void dueCommand(SurprisedPlans x, int command, boolean succeeds) {
        due("runScript(1, " + command + ")", succeeds ? NONE : 0, () -> x.runScript(1, command));
    }

    private static void dueCommands(SurprisedPlans x, boolean succeed, int... commands) {
        for (int command : commands) {
            dueCommand(x, command, succeed);
        }
    }

    private static void runScriptGroups() {
        promise = "28 runScript, groups";
        SurprisedPlans x = five();
        x.run(31);
        x.weeks(3);
        dueCommands(x, true, 100001, 100031);
        dueCommands(x, false, 100000, 100032, 100999, 110001, 101001, 0, 31);
        dueCommands(x, true, 200001, 200020);
        dueCommands(x, false, 200000, 200021, 200101, 201001, 210001);
        dueCommands(x, true, 301001, 310999);
        dueCommands(x, false, 301000, 302001, 300001, 305001, 350001, 399001);
        dueCommands(x, true, 400001, 400999, 410001, 410010, 420000, 420020);
        dueCommands(x, false, 400000, 410000, 410011, 420021, 430001, 401001, 490001);
        dueCommands(x, true, 501001, 502999, 520001);
        dueCommands(x, false, 501000, 500001, 505001, 555001);
        dueCommands(x, true, 630031, 641031, 604031, 600001, 641016 + 8);
        dueCommands(x, false, 640031, 605031, 609031, 600000, 650031, 600032, 631999);
        dueCommands(x, true, 701003, 710099, 723003);
        dueCommands(x, false, 701002, 701103, 700003, 702099, 705099, 704099, 751003, 711003, 755003);
        dueCommands(x, true, 800000, 800003);
        dueCommands(x, false, 800004, 800100, 801000, 810000);
        dueCommands(x, true, 900000, 900031, 900001);
        dueCommands(x, false, 900032, 901000, 910000);
        SurprisedPlans regrets = five();
        dueCommands(regrets, false, 900031);
        SurprisedPlans none = new SurprisedPlans();
        dueCommands(none, true, 900000, 800000, 200005, 400007);
        dueCommands(none, false, 100000, 600000, 701000, 501005, 301005);
        due("link, and no surprise by it", 2, () -> regrets.runScript(3, 534500_100024_800001L));
        due("drift, and a surprise by it", NONE, () -> regrets.runScript(3, 304999_100017_800001L));
        due("set, and no surprise by it", 2, () -> regrets.runScript(3, 400999_100003_800001L));
        due("a memory, 0 weeks old", NONE, () -> regrets.runScript(2, 100031_723000L));
        due("a memory, forgotten", 2, () -> regrets.runScript(3, 100031_200005_723099L));
        due("link, and then drift", NONE, () -> regrets.runScript(2, 502005_302006L));
        due("another order behind a run", NONE, () -> regrets.runScript(3, 610031_100031_630031L));
        SurprisedPlans dear = loaded("t6;t7;t9999;p011,1000");
        due("a regret", 0, () -> dear.runScript(1, 900007L));
        due("no regret behind a drift", NONE, () -> dear.runScript(2, 301001_900007L));
        SurprisedPlans many = seven();
        many.set(1, 1);
        for (int high = 1; high < 7; high++) {
            for (int low = 0; low < high; low++) {
                many.link(low, high, 1, 1000);
            }
        }
        for (int i = 0; i < 4; i++) {
            many.run(127);
        }
        dueCommands(many, true, 800084);
        dueCommands(many, false, 800085, 800099);
        many.run(127);
        dueCommands(many, true, 800099);
        dueCommands(many, false, 800100);
        due("run, and no regret behind it", NONE, () -> regrets.runScript(2, 100031_900031L));
        due("about(5), as it is a copy", 0, () -> regrets.about(5));
        due("pair(3, 4, 0), as it is a copy", 1000, () -> regrets.pair(3, 4, 0));
        due("setting(0), as it is a copy", 50, () -> regrets.setting(0));
    }

    private static void simulate() {
        promise = "29 simulate";
        SurprisedPlans x = five();
        dueThrow("simulate(1, 0)", ARGUMENT, () -> x.simulate(1, 0));
        dueThrow("simulate(1, 41)", ARGUMENT, () -> x.simulate(1, 41));
        due("simulate(5, 40) of nothing", 0, () -> new SurprisedPlans().simulate(5, 40));
        due("simulate(5, 40) of one table", 0, () -> loaded("t5").simulate(5, 40));
        for (long seed = -20; seed < 20; seed++) {
            for (int m = 1; m <= 40; m += 13) {
                long s = seed * 1234567890123456789L;
                int turns = m;
                due("simulate(" + s + ", " + turns + ")", simulated(five(), s, turns), () -> x.simulate(s, turns));
            }
        }
        due("about(5), as it is a copy", 0, () -> x.about(5));
        dueThrow("undo(), as it is no action", STATE, () -> x.undo());
        x.run(31);
        due("simulate(7, 30) behind surprises", simulated(fiveRun(), 7, 30), () -> x.simulate(7, 30));
    }

    private static SurprisedPlans fiveRun() {
        SurprisedPlans x = five();
        x.run(31);
        return x;
    }

    /** A simulation, done by the methods themselves. */
    private static int simulated(SurprisedPlans x, long seed, int m) {
        long before = x.about(5);
        int n = x.about(0);
        for (int i = 0; i < m; i++) {
            seed = seed * 6364136223846793005L + 1442695040888963407L;
            int r = (int) (seed >>> 33);
            try {
                if (r % 8 < 4) {
                    x.run(1 + r / 8 % ((1 << n) - 1));
                } else if (r % 8 == 4) {
                    x.weeks(1);
                } else if (r % 8 < 7) {
                    x.drift(r / 8 % n, r / 64 % n, 1 + r / 512 % 1000);
                } else {
                    x.set(0, 1 + r / 8 % 200);
                }
            } catch (IllegalArgumentException | IllegalStateException e) {
                // What would throw an exception is left out.
            }
        }
        return (int) (100 * (x.about(5) - before) + x.about(2));
    }

    // ---- 30 and 31: save slots

    private static void save() {
        promise = "30 save";
        SurprisedPlans x = five();
        dueThrow("save(-1)", INDEX, () -> x.save(-1));
        dueThrow("save(2)", INDEX, () -> x.save(2));
        due("save(0)", 0, () -> x.save(0));
        x.weeks(7);
        due("save(1)", 7, () -> x.save(1));
        due("undo(), as save is no action", 0, () -> x.undo());
        due("restore(0)", 0, () -> x.restore(0));
        due("restore(1)", 7, () -> x.restore(1));
        due("save(0), once more", 7, () -> x.save(0));
        due("restore(0)", 7, () -> x.restore(0));
    }

    private static void restore() {
        promise = "31 restore";
        SurprisedPlans x = five();
        dueThrow("restore(-1)", INDEX, () -> x.restore(-1));
        dueThrow("restore(2)", INDEX, () -> x.restore(2));
        dueThrow("restore(0), nothing saved", STATE, () -> x.restore(0));
        x.set(2, 9);
        x.run(31);
        x.weeks(2);
        x.save(0);
        dueThrow("restore(1), nothing saved", STATE, () -> x.restore(1));
        due("undo(), behind a restore that threw", 2, () -> x.undo());
        x.link(0, 1, 7, 7);
        x.resize(0, 77);
        x.add(5);
        x.set(2, 3);
        x.run(31);
        write(x, "t9");
        due("restore(0)", 2, () -> x.restore(0));
        dueThrow("undo() behind restore", STATE, () -> x.undo());
        due("about(0)", 5, () -> x.about(0));
        due("about(2)", 3, () -> x.about(2));
        due("about(4)", 1, () -> x.about(4));
        due("about(5)", 3, () -> x.about(5));
        due("sum(0)", 577133, () -> x.sum(0));
        due("sum(3)", 563519, () -> x.sum(3));
        due("size(0)", 1000, () -> x.size(0));
        due("setting(2)", 9, () -> x.setting(2));
        due("pair(0, 1, 0)", 20, () -> x.pair(0, 1, 0));
        due("pair(0, 1, 3)", 2, () -> x.pair(0, 1, 3));
        due("pair(0, 1, 4)", 1, () -> x.pair(0, 1, 4));
        due("surprise(0, 0)", 34, () -> x.surprise(0, 0));
        due("surprise(2, 2)", 900, () -> x.surprise(2, 2));
        due("clearText(), which restore left", 2, () -> x.clearText());
        x.weeks(1);
        due("restore(0), as the slot keeps it", 2, () -> x.restore(0));
        due("about(3)", 2, () -> x.about(3));
        write(x, "t9");
        x.load();
        dueThrow("restore(0) behind load", STATE, () -> x.restore(0));
    }
}
