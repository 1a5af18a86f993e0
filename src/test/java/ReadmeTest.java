import java.io.IOException;
import java.lang.reflect.Method;
import java.lang.reflect.Modifier;
import java.net.URL;
import java.net.URLClassLoader;
import java.nio.file.Files;
import java.nio.file.Path;
import java.util.ArrayList;
import java.util.List;
import java.util.TreeSet;
import java.util.regex.Matcher;
import java.util.regex.Pattern;
import javax.tools.JavaCompiler;
import javax.tools.ToolProvider;

/**
 * The examples of README.md, compiled and run one behind the other: each call answers, or throws, what is told behind
 * it. And README.md tells every call of the face.
 */
public final class ReadmeTest {
    private static final Path README = Path.of("README.md");

    /** A line of an example with an answer: perhaps a name, the call, and a number or an exception behind it. */
    private static final Pattern TOLD =
            Pattern.compile("(?:int (\\w+) = )?(plans\\.\\w+\\(.*?\\)); *// (-?\\d+|\\w+Exception)\\b.*");

    /** The fewest answers: so many examples would be seen no more if their form became another one. */
    private static final int FEWEST_ANSWERS = 30;

    private static int wrong = 0;

    public static void main(String[] args) throws IOException, ReflectiveOperationException {
        String readme = Files.readString(README);
        int answers = examples(readme);
        calls(readme);
        System.out.println("ReadmeTest: " + answers + " answers, " + wrong + " wrong");
        if (wrong != 0) {
            System.exit(1);
        }
    }

    private static void need(boolean ok, String otherwise) {
        if (!ok) {
            wrong++;
            System.out.println("ReadmeTest: " + otherwise);
        }
    }

    private static int examples(String readme) throws IOException, ReflectiveOperationException {
        StringBuilder program = new StringBuilder("public final class Examples {\n");
        program.append("public static void run(java.util.List<String> got) {\n");
        List<String> lines = new ArrayList<>();
        List<String> due = new ArrayList<>();
        Matcher blocks = Pattern.compile("(?s)```java\n(.*?)```").matcher(readme);
        while (blocks.find()) {
            for (String line : blocks.group(1).split("\n")) {
                Matcher told = TOLD.matcher(line);
                if (told.matches()) {
                    program.append(asked(told.group(1), told.group(2)));
                    lines.add(line);
                    due.add(told.group(3));
                } else {
                    program.append(line).append('\n');
                }
            }
        }
        program.append("}\n}\n");
        List<String> got = new ArrayList<>();
        compiled(program.toString()).getMethod("run", List.class).invoke(null, got);
        need(got.size() == due.size() && got.size() >= FEWEST_ANSWERS, got.size() + " answers");
        for (int i = 0; i < Math.min(got.size(), due.size()); i++) {
            need(got.get(i).equals(due.get(i)), "answered " + got.get(i) + ": " + lines.get(i));
        }
        return got.size();
    }

    private static String asked(String name, String call) {
        if (name != null) {
            return "int " + name + " = " + call + ";\ngot.add(String.valueOf(" + name + "));\n";
        }
        return "try { got.add(String.valueOf(" + call + ")); }"
                + " catch (RuntimeException e) { got.add(e.getClass().getSimpleName()); }\n";
    }

    private static Class<?> compiled(String program) throws IOException, ReflectiveOperationException {
        Path folder = Files.createDirectories(Path.of("build", "readme"));
        Path file = folder.resolve("Examples.java");
        Files.writeString(file, program);
        JavaCompiler compiler = ToolProvider.getSystemJavaCompiler();
        String path = System.getProperty("java.class.path");
        int exit = compiler.run(null, null, null, "-d", folder.toString(), "-cp", path, file.toString());
        if (exit != 0) {
            System.out.println("ReadmeTest: the examples do not compile");
            System.exit(1);
        }
        try (URLClassLoader loader = new URLClassLoader(new URL[] {folder.toUri().toURL()})) {
            return loader.loadClass("Examples");
        }
    }

    private static void calls(String readme) {
        TreeSet<String> names = new TreeSet<>();
        for (Method m : SurprisedPlans.class.getDeclaredMethods()) {
            if (Modifier.isPublic(m.getModifiers())) {
                names.add(m.getName());
            }
        }
        for (String name : names) {
            need(readme.contains("`" + name + "`"), "README.md does not tell of " + name);
        }
        need(names.size() == 30, "the face has " + names.size() + " calls");
    }
}
