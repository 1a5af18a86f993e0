import java.io.IOException;
import java.lang.management.ManagementFactory;
import java.lang.reflect.Constructor;
import java.lang.reflect.Field;
import java.lang.reflect.Method;
import java.lang.reflect.Modifier;
import java.nio.file.Files;
import java.nio.file.Path;
import java.util.Arrays;
import java.util.Set;
import java.util.TreeSet;
import java.util.regex.Pattern;
import java.util.stream.Collectors;

/** The public face of the document, and those rules of LANGUAGE.md that can be seen from outside or in the text. */
public final class RulesTest {
    private static final String SOURCE = "src/main/java/SurprisedPlans.java";

    private static final String[] FACE = {
        "int append(int) IllegalArgumentException IllegalStateException",
        "int clearText()",
        "int errorPosition(boolean)",
        "int load() IllegalStateException",
        "int about(int) IllegalArgumentException",
        "long sum(int) IllegalArgumentException",
        "int size(int) IndexOutOfBoundsException",
        "int pair(int,int,int) IndexOutOfBoundsException IllegalArgumentException",
        "int surprise(int,int) IllegalArgumentException",
        "int setting(int) IllegalArgumentException",
        "int add(int) IllegalArgumentException IllegalStateException",
        "int resize(int,int) IndexOutOfBoundsException IllegalArgumentException",
        "int link(int,int,int,int) IndexOutOfBoundsException IllegalArgumentException",
        "int drift(int,int,int) IndexOutOfBoundsException IllegalArgumentException IllegalStateException",
        "int run(int) IndexOutOfBoundsException IllegalArgumentException",
        "int weeks(int) IllegalArgumentException",
        "int set(int,int) IllegalArgumentException",
        "int undo() IllegalStateException",
        "long rows(int,int) IndexOutOfBoundsException IllegalArgumentException",
        "int order(int,int,int) IndexOutOfBoundsException IllegalArgumentException",
        "int way(int,int) IndexOutOfBoundsException IllegalArgumentException",
        "long cost(int,int) IndexOutOfBoundsException IllegalArgumentException",
        "long costOfText(int) IllegalArgumentException IllegalStateException",
        "int matters(int,int,int) IndexOutOfBoundsException IllegalArgumentException",
        "int worst()",
        "int learnsIn(int) IndexOutOfBoundsException IllegalArgumentException",
        "int runScript(int,long) IllegalArgumentException",
        "int simulate(long,int) IllegalArgumentException",
        "int save(int) IndexOutOfBoundsException",
        "int restore(int) IndexOutOfBoundsException IllegalStateException",
    };

    /** What rules 2, 4, 6, 10 and 13 shut out, as words of the text without comments and written texts. */
    private static final String[] SHUT_OUT = {
        "\\bimport\\b", "\\bpackage\\b", "\\bcatch\\b", "\\bfinally\\b", "\\btry\\b", "->", "::", "@",
        "\\bsynchronized\\b", "\\bassert\\b", "\\bhashCode\\b", "\\bequals\\b", "\\btoString\\b", "\\bDouble\\b",
        "\\bRandom\\b", "\\bnanoTime\\b", "\\bcurrentTimeMillis\\b", "Exact\\b", "\\bvar\\b", "while\\s*\\(\\s*true",
    };

    private static int wrong = 0;

    public static void main(String[] args) throws IOException {
        face();
        members(SurprisedPlans.class);
        Class<?>[] inside = SurprisedPlans.class.getDeclaredClasses();
        need(inside.length <= 11, "more than twelve classes");
        for (Class<?> c : inside) {
            need(Modifier.isStatic(c.getModifiers()) && !Modifier.isPublic(c.getModifiers()), c + " is not static");
            members(c);
        }
        text();
        makesNothing();
        System.out.println("RulesTest: " + wrong + " wrong");
        if (wrong != 0) {
            System.exit(1);
        }
    }

    private static void need(boolean ok, String otherwise) {
        if (!ok) {
            wrong++;
            System.out.println("RulesTest: " + otherwise);
        }
    }

    private static void face() {
        Set<String> want = new TreeSet<>(Arrays.asList(FACE));
        Set<String> got = new TreeSet<>();
        for (Method m : SurprisedPlans.class.getDeclaredMethods()) {
            if (Modifier.isPrivate(m.getModifiers())) {
                continue;
            }
            need(Modifier.isPublic(m.getModifiers()) && !Modifier.isStatic(m.getModifiers()), m + " is not of the face");
            String parameters = Arrays.stream(m.getParameterTypes()).map(Class::getName).collect(Collectors.joining(","));
            StringBuilder s = new StringBuilder();
            s.append(m.getReturnType().getName()).append(' ').append(m.getName()).append('(').append(parameters).append(')');
            for (Class<?> e : m.getExceptionTypes()) {
                s.append(' ').append(e.getSimpleName());
            }
            got.add(s.toString());
        }
        need(got.equals(want), "the face is " + got);
        for (Field f : SurprisedPlans.class.getDeclaredFields()) {
            need(Modifier.isPrivate(f.getModifiers()) || f.getName().equals("NONE"), f + " is not of the face");
        }
        Constructor<?>[] constructors = SurprisedPlans.class.getDeclaredConstructors();
        need(constructors.length == 1 && Modifier.isPublic(constructors[0].getModifiers())
                && constructors[0].getParameterCount() == 0, "another constructor");
        int modifiers = SurprisedPlans.class.getModifiers();
        need(Modifier.isPublic(modifiers) && Modifier.isFinal(modifiers), "the class is not public and final");
        need(SurprisedPlans.class.getSuperclass() == Object.class, "the class has another one above it");
    }

    private static void members(Class<?> c) {
        Set<String> names = Arrays.stream(FACE).map(s -> s.replaceAll("\\(.*", "").replaceAll(".* ", ""))
                .collect(Collectors.toSet());
        for (Method m : c.getDeclaredMethods()) {
            need(m.getParameterCount() <= 7, m + " has too many parameters");
            need(Modifier.isPublic(m.getModifiers()) || !names.contains(m.getName()), m + " has a name of the face");
        }
        int fields = 0;
        for (Field f : c.getDeclaredFields()) {
            if (!Modifier.isStatic(f.getModifiers())) {
                fields++;
            } else {
                need(Modifier.isFinal(f.getModifiers()), f + " is static, but not final");
            }
        }
        need(fields <= 20, c + " has too many fields");
    }

    private static void text() throws IOException {
        String source = Files.readString(Path.of(SOURCE));
        String bare = source.replaceAll("(?s)/\\*.*?\\*/", "").replaceAll("//.*", "").replaceAll("\"[^\"]*\"", "\"\"");
        for (String shutOut : SHUT_OUT) {
            need(!Pattern.compile(shutOut).matcher(bare).find(), "the program has " + shutOut);
        }
        need(!Pattern.compile("\"\"\\s*\\+|\\+\\s*\"\"").matcher(bare).find(), "the program joins texts by +");
        need(source.chars().allMatch(c -> c < 128), "the program has signs above 127");
        // Four or eight spaces ahead: a method of the class or of a class inside.
        Pattern method = Pattern.compile("(?ms)^( {4}| {8})(?! )[^\\n;=]*\\([^;{]*\\{\\n(.*?)\\n\\1\\}");
        var matcher = method.matcher(source);
        int methods = 0;
        while (matcher.find()) {
            methods++;
            long lines = matcher.group(2).lines().count();
            need(lines <= 60, "a method of " + lines + " lines: " + matcher.group().lines().findFirst().orElse(""));
        }
        need(methods > 100, "only " + methods + " methods seen");
    }

    /** Calls make no objects: all of them are made by the constructor, of which a run may call many. */
    private static void makesNothing() {
        var threads = (com.sun.management.ThreadMXBean) ManagementFactory.getThreadMXBean();
        long self = Thread.currentThread().getId();
        SurprisedPlans x = new SurprisedPlans();
        calls(x);
        long before = threads.getThreadAllocatedBytes(self);
        for (int i = 0; i < 100; i++) {
            calls(x);
        }
        long made = threads.getThreadAllocatedBytes(self) - before;
        need(made < 10000, "100 rounds of calls made " + made + " bytes");
        before = threads.getThreadAllocatedBytes(self);
        for (int i = 0; i < 100; i++) {
            x = new SurprisedPlans();
        }
        long madeByNew = (threads.getThreadAllocatedBytes(self) - before) / 100;
        need(madeByNew < 50000, "a new object makes " + madeByNew + " bytes");
        need(x.about(0) == 0, "a new object has tables");
    }

    private static void calls(SurprisedPlans x) {
        x.clearText();
        String text = "t1000;t50;t9999;t3;t400;p0120,900;p121,1;p23500,5;p0410,10;p341000,1;t5;t6";
        for (int i = 0; i < text.length(); i++) {
            x.append(text.charAt(i));
        }
        x.load();
        x.errorPosition(true);
        x.learnsIn(127);
        x.run(127);
        x.weeks(1);
        x.set(0, 5);
        x.set(1, 5);
        x.link(0, 1, 5, 8);
        x.drift(0, 1, 500);
        x.resize(0, 5);
        x.save(1);
        x.undo();
        x.restore(1);
        x.matters(2, 3, 127);
        x.worst();
        x.order(127, 0, 0);
        x.way(127, 3);
        x.cost(127, 1);
        x.cost(127, 2);
        x.rows(127, 1);
        x.runScript(3, 100031_200001_800003L);
        x.simulate(5, 40);
        x.surprise(0, 0);
        x.pair(0, 1, 2);
        x.clearText();
        x.append('1');
        x.costOfText(2);
        x.clearText();
    }
}
