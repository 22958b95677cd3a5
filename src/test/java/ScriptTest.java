import java.io.IOException;
import java.nio.charset.StandardCharsets;
import java.nio.file.Files;
import java.nio.file.Path;
import java.nio.file.StandardCopyOption;
import java.util.ArrayList;
import java.util.Comparator;
import java.util.List;
import java.util.stream.Stream;

/**
 * What README.md says of .ci/run: in small projects of the same form it runs every test, and refuses those in which
 * one fails. It runs in the project's folder.
 */
public final class ScriptTest {
    private static final String GOOD = "System.out.println(\"done by \" + new BelfryBox().getClass().getName());";
    private static final String WRONG = "System.exit(1);";
    private static final String THROWS = "throw new IllegalStateException(\"as it should\");";
    private static final String BROKEN = "int a = new BelfryBox();";

    /** A project in a folder of its own, and its run. */
    private static final class Project {
        final String what;
        final Path main;
        final Path output;
        Process process;

        Project(String what, Path folder) throws IOException {
            this.what = what;
            main = folder.resolve("main");
            output = folder.resolve("output");
            for (String name : new String[] {".ci", "src/main/java", "src/test/java", "../shared/tests"}) {
                Files.createDirectories(main.resolve(name));
            }
            Files.copy(Path.of(".ci/run"), main.resolve(".ci/run"), StandardCopyOption.COPY_ATTRIBUTES);
            Files.writeString(main.resolve("src/main/java/BelfryBox.java"), "public final class BelfryBox { }\n");
        }

        Project own(String name, String line) throws IOException {
            return test("src/test/java", name, line);
        }

        Project shared(String name, String line) throws IOException {
            return test("../shared/tests", name, line);
        }

        private Project test(String folder, String name, String line) throws IOException {
            Files.writeString(main.resolve(folder).resolve(name + ".java"), "public final class " + name
                    + " {\n  public static void main(String[] args) {\n    " + line + "\n  }\n}\n");
            return this;
        }

        /** It is begun in another folder than the project's. */
        void begin() throws IOException {
            ProcessBuilder builder = new ProcessBuilder(main.resolve(".ci/run").toString());
            // Short runs are done sooner without the second compiler.
            builder.environment().put("JAVA_TOOL_OPTIONS", "-XX:TieredStopAtLevel=1");
            process = builder.directory(main.getParent().toFile()).redirectErrorStream(true)
                    .redirectOutput(output.toFile()).start();
        }

        /** Its exit code is 0 or 1, and it tells these words. */
        void ends(int code, String... words) throws IOException, InterruptedException {
            Check.due(what + ": exit code", process.waitFor(), code);
            String told = Files.readString(output, StandardCharsets.ISO_8859_1);
            for (String word : words) {
                Check.due(what + " tells " + word, told.contains(word), true);
            }
            Check.due(what + " tells that all passed", told.contains("all tests passed"), code == 0);
        }
    }

    private final Path folder;
    private final List<Project> projects = new ArrayList<>();

    private ScriptTest(Path folder) {
        this.folder = folder;
    }

    public static void main(String[] args) throws IOException, InterruptedException {
        Path folder = Files.createTempDirectory("projects").toRealPath();
        try {
            new ScriptTest(folder).lookAtAll();
        } finally {
            remove(folder);
        }
        Check.end();
    }

    private Project project(String what) throws IOException {
        Project made = new Project(what, folder.resolve("p" + projects.size()));
        projects.add(made);
        return made;
    }

    private void lookAtAll() throws IOException, InterruptedException {
        Project good = project("a good project").own("OneTest", GOOD).own("TwoTest", GOOD).own("Helper", WRONG)
                .shared("Runs", GOOD).shared("More", GOOD);
        Project ownFails = project("a test of the project that fails").own("OneTest", WRONG).own("TwoTest", GOOD)
                .shared("Runs", GOOD);
        Project ownThrows = project("a test of the project that throws").own("OneTest", GOOD).own("TwoTest", THROWS)
                .shared("Runs", GOOD);
        Project ownBroken = project("a test of the project that does not compile").own("OneTest", BROKEN)
                .shared("Runs", GOOD);
        Project sharedFails = project("a shared test that fails").own("OneTest", GOOD).shared("More", WRONG)
                .shared("Runs", GOOD);
        Project sharedBroken = project("a shared test that does not compile").own("OneTest", GOOD)
                .shared("More", GOOD).shared("Runs", BROKEN);
        Project sharedNone = project("no shared test").own("OneTest", GOOD);
        for (Project project : projects) {
            project.begin();
        }
        good.ends(0, "passed: OneTest", "passed: TwoTest", "passed: Runs", "passed: More", "done by BelfryBox");
        ownFails.ends(1, "FAILED: OneTest", "passed: TwoTest", "passed: Runs");
        ownThrows.ends(1, "passed: OneTest", "FAILED: TwoTest", "passed: Runs");
        ownBroken.ends(1, "FAILED: the project's tests do not compile", "passed: Runs");
        sharedFails.ends(1, "passed: OneTest", "FAILED: More", "passed: Runs");
        sharedBroken.ends(1, "passed: OneTest", "passed: More", "FAILED: Runs does not compile");
        sharedNone.ends(1, "passed: OneTest", "FAILED: no tests found");
    }

    private static void remove(Path folder) throws IOException {
        try (Stream<Path> files = Files.walk(folder)) {
            for (Path file : files.sorted(Comparator.reverseOrder()).toList()) {
                Files.delete(file);
            }
        }
    }
}
