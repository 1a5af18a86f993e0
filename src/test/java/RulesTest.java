import java.io.IOException;
import java.io.PrintWriter;
import java.io.StringWriter;
import java.lang.management.ManagementFactory;
import java.lang.reflect.Constructor;
import java.lang.reflect.Field;
import java.lang.reflect.Method;
import java.lang.reflect.Modifier;
import java.nio.file.Files;
import java.nio.file.Path;
import java.util.ArrayList;
import java.util.Arrays;
import java.util.List;
import java.util.Map;
import java.util.Set;
import java.util.TreeMap;
import java.util.TreeSet;
import java.util.regex.Matcher;
import java.util.regex.Pattern;
import java.util.spi.ToolProvider;
import java.util.stream.Collectors;

/** The public face of the document, and those rules of LANGUAGE.md that can be seen from outside or in the text. */
public final class RulesTest {
    private static final String SOURCE = "src/main/java/SurprisedPlans.java";

    private static final String[] FACE = {
        "int append(int) IllegalArgumentException IllegalStateException",
        "int clearText()",
        "int errorPosition(boolean)",
        "int load() IllegalStateException",
        "int about(int) IllegalArgumentException",
        "long sum(int) IllegalArgumentException",
        "int size(int) IndexOutOfBoundsException",
        "int pair(int,int,int) IndexOutOfBoundsException IllegalArgumentException",
        "int surprise(int,int) IllegalArgumentException",
        "int setting(int) IllegalArgumentException",
        "int add(int) IllegalArgumentException IllegalStateException",
        "int resize(int,int) IndexOutOfBoundsException IllegalArgumentException",
        "int link(int,int,int,int) IndexOutOfBoundsException IllegalArgumentException",
        "int drift(int,int,int) IndexOutOfBoundsException IllegalArgumentException IllegalStateException",
        "int run(int) IndexOutOfBoundsException IllegalArgumentException",
        "int weeks(int) IllegalArgumentException",
        "int set(int,int) IllegalArgumentException",
        "int undo() IllegalStateException",
        "long rows(int,int) IndexOutOfBoundsException IllegalArgumentException",
        "int order(int,int,int) IndexOutOfBoundsException IllegalArgumentException",
        "int way(int,int) IndexOutOfBoundsException IllegalArgumentException",
        "long cost(int,int) IndexOutOfBoundsException IllegalArgumentException",
        "long costOfText(int) IllegalArgumentException IllegalStateException",
        "int matters(int,int,int) IndexOutOfBoundsException IllegalArgumentException",
        "int worst()",
        "int learnsIn(int) IndexOutOfBoundsException IllegalArgumentException",
        "int runScript(int,long) IllegalArgumentException",
        "int simulate(long,int) IllegalArgumentException",
        "int save(int) IndexOutOfBoundsException",
        "int restore(int) IndexOutOfBoundsException IllegalStateException",
    };

    /** What rules 2, 4, 6, 10 and 13 shut out, as words of the text without comments and written texts. */
    private static final String[] SHUT_OUT = {
        "\\bimport\\b", "\\bpackage\\b", "\\bcatch\\b", "\\bfinally\\b", "\\btry\\b", "->", "::", "@",
        "\\bsynchronized\\b", "\\bassert\\b", "\\bhashCode\\b", "\\bequals\\b", "\\btoString\\b", "\\bDouble\\b",
        "\\bRandom\\b", "\\bnanoTime\\b", "\\bcurrentTimeMillis\\b", "Exact\\b", "\\bvar\\b", "while\\s*\\(\\s*true",
    };

    /** A method's head and a call in it, as javap writes them. */
    private static final Pattern METHOD = Pattern.compile("  (?:[\\w.$\\[\\]]+ )*([\\w$.]+)\\([^()]*\\).*;");
    private static final Pattern CALL = Pattern.compile("// (?:Interface)?Method (?:([\\w$/]+)\\.)?\"?([\\w<>$]+)\"?:");

    /** What the program uses of what rule 4 allows; it may become more, but only by what stands there. */
    private static final Pattern LIBRARY = Pattern.compile("java\\.lang\\.(Object\\.<init>"
            + "|(IllegalArgument|IllegalState|IndexOutOfBounds)Exception\\.<init>"
            + "|Math\\.(abs|max|min)|System\\.arraycopy)");

    private static int wrong = 0;

    public static void main(String[] args) throws IOException {
        face();
        members(SurprisedPlans.class);
        Class<?>[] inside = SurprisedPlans.class.getDeclaredClasses();
        need(inside.length <= 11, "more than twelve classes");
        for (Class<?> c : inside) {
            need(Modifier.isStatic(c.getModifiers()) && !Modifier.isPublic(c.getModifiers()), c + " is not static");
            members(c);
        }
        text();
        Map<String, Set<String>> calls = callsOfMethods();
        library(calls);
        depth(calls);
        makesNothing();
        System.out.println("RulesTest: " + wrong + " wrong");
        if (wrong != 0) {
            System.exit(1);
        }
    }

    private static void need(boolean ok, String otherwise) {
        if (!ok) {
            wrong++;
            System.out.println("RulesTest: " + otherwise);
        }
    }

    private static void face() {
        Set<String> want = new TreeSet<>(Arrays.asList(FACE));
        Set<String> got = new TreeSet<>();
        for (Method m : SurprisedPlans.class.getDeclaredMethods()) {
            if (Modifier.isPrivate(m.getModifiers())) {
                continue;
            }
            need(Modifier.isPublic(m.getModifiers()) && !Modifier.isStatic(m.getModifiers()), m + " is not of the face");
            String parameters = Arrays.stream(m.getParameterTypes()).map(Class::getName).collect(Collectors.joining(","));
            StringBuilder s = new StringBuilder();
            s.append(m.getReturnType().getName()).append(' ').append(m.getName()).append('(').append(parameters).append(')');
            for (Class<?> e : m.getExceptionTypes()) {
                s.append(' ').append(e.getSimpleName());
            }
            got.add(s.toString());
        }
        need(got.equals(want), "the face is " + got);
        for (Field f : SurprisedPlans.class.getDeclaredFields()) {
            need(Modifier.isPrivate(f.getModifiers()) || f.getName().equals("NONE"), f + " is not of the face");
        }
        Constructor<?>[] constructors = SurprisedPlans.class.getDeclaredConstructors();
        need(constructors.length == 1 && Modifier.isPublic(constructors[0].getModifiers())
                && constructors[0].getParameterCount() == 0, "another constructor");
        int modifiers = SurprisedPlans.class.getModifiers();
        need(Modifier.isPublic(modifiers) && Modifier.isFinal(modifiers), "the class is not public and final");
        need(SurprisedPlans.class.getSuperclass() == Object.class, "the class has another one above it");
    }

    private static void members(Class<?> c) {
        Set<String> names = Arrays.stream(FACE).map(s -> s.replaceAll("\\(.*", "").replaceAll(".* ", ""))
                .collect(Collectors.toSet());
        for (Method m : c.getDeclaredMethods()) {
            need(m.getParameterCount() <= 7, m + " has too many parameters");
            need(Modifier.isPublic(m.getModifiers()) || !names.contains(m.getName()), m + " has a name of the face");
        }
        int fields = 0;
        for (Field f : c.getDeclaredFields()) {
            if (!Modifier.isStatic(f.getModifiers())) {
                fields++;
            } else {
                need(Modifier.isFinal(f.getModifiers()), f + " is static, but not final");
            }
        }
        need(fields <= 20, c + " has too many fields");
    }

    private static void text() throws IOException {
        String source = Files.readString(Path.of(SOURCE));
        String bare = source.replaceAll("(?s)/\\*.*?\\*/", "").replaceAll("//.*", "").replaceAll("\"[^\"]*\"", "\"\"");
        for (String shutOut : SHUT_OUT) {
            need(!Pattern.compile(shutOut).matcher(bare).find(), "the program has " + shutOut);
        }
        need(!Pattern.compile("\"\"\\s*\\+|\\+\\s*\"\"").matcher(bare).find(), "the program joins texts by +");
        need(source.chars().allMatch(c -> c < 128), "the program has signs above 127");
        // Four or eight spaces ahead: a method of the class or of a class inside.
        Pattern method = Pattern.compile("(?ms)^( {4}| {8})(?! )[^\\n;=]*\\([^;{]*\\{\\n(.*?)\\n\\1\\}");
        var matcher = method.matcher(source);
        int methods = 0;
        while (matcher.find()) {
            methods++;
            long lines = matcher.group(2).lines().count();
            need(lines <= 60, "a method of " + lines + " lines: " + matcher.group().lines().findFirst().orElse(""));
        }
        need(methods > 100, "only " + methods + " methods seen");
    }

    /** The methods, each with those that it calls, read from the compiled classes; names are Class.method. */
    private static Map<String, Set<String>> callsOfMethods() throws IOException {
        Map<String, Set<String>> calls = new TreeMap<>();
        for (Class<?> c : ownClasses()) {
            StringWriter told = new StringWriter();
            ToolProvider javap = ToolProvider.findFirst("javap").orElseThrow();
            String path = System.getProperty("java.class.path");
            javap.run(new PrintWriter(told), new PrintWriter(told), "-p", "-c", "-cp", path, c.getName());
            need(!told.toString().contains("Exception table"), c + " catches an exception");
            Set<String> called = new TreeSet<>();
            for (String line : told.toString().split("\\R")) {
                Matcher method = METHOD.matcher(line);
                Matcher call = CALL.matcher(line);
                if (method.matches()) {
                    String name = method.group(1).equals(c.getName()) ? "<init>" : method.group(1);
                    called = calls.computeIfAbsent(c.getName() + "." + name, k -> new TreeSet<>());
                } else if (call.find()) {
                    String of = call.group(1) == null ? c.getName() : call.group(1).replace('/', '.');
                    called.add(of + "." + call.group(2));
                    addCallsBelow(called, of, call.group(2));
                }
            }
        }
        need(calls.size() > 100, "only " + calls.size() + " methods read");
        return calls;
    }

    /** A call of a method of an abstract class may be one of any class below it. */
    private static void addCallsBelow(Set<String> called, String of, String name) {
        for (Class<?> c : ownClasses()) {
            Class<?> above = c.getSuperclass();
            if (above != null && above.getName().equals(of) && !name.equals("<init>")) {
                called.add(c.getName() + "." + name);
            }
        }
    }

    private static List<Class<?>> ownClasses() {
        List<Class<?>> all = new ArrayList<>(Arrays.asList(SurprisedPlans.class.getDeclaredClasses()));
        all.add(SurprisedPlans.class);
        return all;
    }

    /** Rule 4. */
    private static void library(Map<String, Set<String>> calls) {
        for (Map.Entry<String, Set<String>> e : calls.entrySet()) {
            for (String call : e.getValue()) {
                need(!call.startsWith("java") || LIBRARY.matcher(call).matches(), e.getKey() + " calls " + call);
            }
        }
    }

    /** Rules 8 and 11: calls go at most eight deep, and none comes back to itself. */
    private static void depth(Map<String, Set<String>> calls) {
        Map<String, List<String>> deepest = new TreeMap<>();
        for (String method : calls.keySet()) {
            List<String> down = deepestFrom(method, calls, deepest, 0);
            need(down.size() <= 8, "calls go too deep: " + String.join(" > ", down));
        }
    }

    private static List<String> deepestFrom(
            String method, Map<String, Set<String>> calls, Map<String, List<String>> deepest, int above) {
        List<String> known = deepest.get(method);
        if (known != null) {
            return known;
        }
        List<String> down = new ArrayList<>();
        // Far above the eight that are allowed: it ends for calls in a circle, too, and is told as too deep.
        if (above < 50) {
            for (String call : calls.getOrDefault(method, Set.of())) {
                List<String> further = calls.containsKey(call)
                        ? deepestFrom(call, calls, deepest, above + 1) : List.of();
                down = further.size() > down.size() ? further : down;
            }
        }
        down = new ArrayList<>(down);
        down.add(0, method);
        deepest.put(method, down);
        return down;
    }

    /** Calls make no objects: all of them are made by the constructor, of which a run may call many. */
    private static void makesNothing() {
        var threads = (com.sun.management.ThreadMXBean) ManagementFactory.getThreadMXBean();
        long self = Thread.currentThread().getId();
        SurprisedPlans x = new SurprisedPlans();
        calls(x);
        long before = threads.getThreadAllocatedBytes(self);
        for (int i = 0; i < 100; i++) {
            calls(x);
        }
        long made = threads.getThreadAllocatedBytes(self) - before;
        need(made < 10000, "100 rounds of calls made " + made + " bytes");
        before = threads.getThreadAllocatedBytes(self);
        for (int i = 0; i < 100; i++) {
            x = new SurprisedPlans();
        }
        long madeByNew = (threads.getThreadAllocatedBytes(self) - before) / 100;
        need(madeByNew < 50000, "a new object makes " + madeByNew + " bytes");
        need(x.about(0) == 0, "a new object has tables");
    }

    private static void calls(SurprisedPlans x) {
        x.clearText();
        String text = "t1000;t50;t9999;t3;t400;p0120,900;p121,1;p23500,5;p0410,10;p341000,1;t5;t6";
        for (int i = 0; i < text.length(); i++) {
            x.append(text.charAt(i));
        }
        x.load();
        x.errorPosition(true);
        x.learnsIn(127);
        x.run(127);
        x.weeks(1);
        x.set(0, 5);
        x.set(1, 5);
        x.link(0, 1, 5, 8);
        x.drift(0, 1, 500);
        x.resize(0, 5);
        x.save(1);
        x.undo();
        x.restore(1);
        x.matters(2, 3, 127);
        x.worst();
        x.order(127, 0, 0);
        x.way(127, 3);
        x.cost(127, 1);
        x.cost(127, 2);
        x.rows(127, 1);
        x.runScript(3, 100031_200001_800003L);
        x.simulate(5, 40);
        x.surprise(0, 0);
        x.pair(0, 1, 2);
        x.clearText();
        x.append('1');
        x.costOfText(2);
        x.clearText();
    }
}
