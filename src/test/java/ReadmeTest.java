import java.io.File;
import java.io.IOException;
import java.lang.reflect.Method;
import java.lang.reflect.Modifier;
import java.net.URL;
import java.net.URLClassLoader;
import java.nio.file.Files;
import java.nio.file.Path;
import java.util.ArrayList;
import java.util.List;
import java.util.TreeSet;
import java.util.regex.MatchResult;
import java.util.regex.Matcher;
import java.util.regex.Pattern;
import java.util.stream.Stream;
import javax.tools.ToolProvider;

/**
 * What README.md says of the class: its examples are compiled and run, each call with the answer that stands behind
 * it, and its tables are held against the face, the classes inside and the tests. It runs in the project's folder.
 */
public final class ReadmeTest {
    private static final Pattern EXAMPLE = Pattern.compile("```java\n(.*?)```", Pattern.DOTALL);
    private static final Pattern CALL_IN_EXAMPLE = Pattern.compile("(?m)^(box\\.|textOf)");
    private static final Pattern ANSWER = Pattern.compile("(?m)^((?:box\\.|textOf).*);\\s*// (\"[^\"]*\"|-?\\w+).*$");
    private static final Pattern CALL = Pattern.compile("(?m)^\\| `(\\w+)\\((.*?)\\)` \\|");
    private static final Pattern INSIDE = Pattern.compile("(?m)^\\| `([A-Z]\\w*)(?<!Test)` \\|");
    private static final Pattern TEST = Pattern.compile("`(\\w+Test)`");

    public static void main(String[] args) throws Exception {
        String page = Files.readString(Path.of("README.md"));
        examples(page);
        calls(page);
        classesInside(page);
        tests(page);
        Check.end();
    }

    private static void examples(String page) throws Exception {
        StringBuilder source = new StringBuilder("public final class Examples {\n");
        int count = 0;
        int answers = 0;
        for (Matcher example = EXAMPLE.matcher(page); example.find(); ) {
            String lines = example.group(1);
            if (lines.startsWith("static ")) {
                source.append(lines);
                continue;
            }
            Matcher answer = ANSWER.matcher(lines);
            answers += (int) CALL_IN_EXAMPLE.matcher(lines).results().count();
            source.append("public static void example").append(count)
                    .append("(java.util.List<Object> told) throws Exception {\n")
                    .append(answer.replaceAll(ReadmeTest::telling)).append("}\n");
            count++;
        }
        Check.due("README has examples", count > 0 && answers > 10, true);
        Path folder = Files.createTempDirectory("readme");
        try {
            runExamples(folder, source.append("}\n").toString(), count, answers);
        } finally {
            remove(folder);
        }
    }

    /** The call, its answer and the answer that is due, one behind the other, are told to the list. */
    private static String telling(MatchResult line) {
        String call = line.group(1);
        String due = line.group(2);
        String text = due.startsWith("\"") ? due : due.equals("NONE") ? "BelfryBox.NONE" : due;
        return Matcher.quoteReplacement("told.add(\"" + call.replace("\"", "'") + "\"); told.add(" + call
                + "); told.add(" + text + ");");
    }

    private static void runExamples(Path folder, String source, int count, int answers) throws Exception {
        Path file = folder.resolve("Examples.java");
        Files.writeString(file, source);
        int compiled = ToolProvider.getSystemJavaCompiler().run(null, null, null, "-proc:none", "-cp",
                System.getProperty("java.class.path"), "-d", folder.toString(), file.toString());
        Check.due("compiling the examples of README.md", compiled, 0);
        if (compiled != 0) {
            return;
        }
        int looked = 0;
        try (URLClassLoader loader = new URLClassLoader(new URL[] {folder.toUri().toURL()})) {
            for (int i = 0; i < count; i++) {
                List<Object> told = new ArrayList<>();
                loader.loadClass("Examples").getMethod("example" + i, List.class).invoke(null, told);
                for (int k = 0; k + 2 < told.size(); k += 3) {
                    Check.due("README.md: " + told.get(k), "" + told.get(k + 1), "" + told.get(k + 2));
                    looked++;
                }
            }
        }
        Check.due("answers of README.md that were looked at", looked, answers);
    }

    private static void remove(Path folder) throws IOException {
        for (File file : folder.toFile().listFiles()) {
            Files.delete(file.toPath());
        }
        Files.delete(folder);
    }

    private static void calls(String page) {
        TreeSet<String> told = new TreeSet<>();
        for (Matcher call = CALL.matcher(page); call.find(); ) {
            int parameters = call.group(2).isEmpty() ? 0 : call.group(2).split(",").length;
            told.add(call.group(1) + " " + parameters);
        }
        TreeSet<String> face = new TreeSet<>();
        for (Method method : BelfryBox.class.getDeclaredMethods()) {
            if (Modifier.isPublic(method.getModifiers())) {
                face.add(method.getName() + " " + method.getParameterCount());
            }
        }
        Check.due("the calls in README.md, and how many numbers each takes", told.toString(), face.toString());
    }

    private static void classesInside(String page) {
        TreeSet<String> told = new TreeSet<>();
        for (Matcher inside = INSIDE.matcher(page); inside.find(); ) {
            told.add(inside.group(1));
        }
        TreeSet<String> classes = new TreeSet<>();
        for (Class<?> inside : BelfryBox.class.getDeclaredClasses()) {
            classes.add(inside.getSimpleName());
        }
        Check.due("the classes inside, in README.md", told.toString(), classes.toString());
    }

    private static void tests(String page) throws IOException {
        TreeSet<String> told = new TreeSet<>();
        for (Matcher test = TEST.matcher(page); test.find(); ) {
            told.add(test.group(1));
        }
        TreeSet<String> tests = new TreeSet<>();
        try (Stream<Path> files = Files.list(Path.of("src/test/java"))) {
            files.map(file -> file.getFileName().toString()).filter(name -> name.endsWith("Test.java"))
                    .forEach(name -> tests.add(name.substring(0, name.length() - ".java".length())));
        }
        Check.due("the tests in README.md", told.toString(), tests.toString());
    }
}
