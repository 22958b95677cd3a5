import java.io.IOException;
import java.nio.file.Files;
import java.nio.file.Path;
import java.util.List;
import java.util.regex.Matcher;
import java.util.regex.Pattern;

/** The rules of LANGUAGE.md that can be seen in the source's lines. It runs in the project's folder. */
public final class SourceTest {
    private static final String FORBIDDEN =
            "\\b(throw|throws|try|catch|finally|synchronized|assert|instanceof|System\\.(?!arraycopy)\\w+|Thread|Random"
            + "|package|protected|\\w+Exact|hashCode|toString|double|float|record)\\b|->|::|\" \\+|\\+ \""
            + "|\\bMath\\.(?!(max|min|abs)\\()|\\bArrays\\.(?!fill\\()|while \\(true|for \\(;";
    /** A static field that is not final. */
    private static final Pattern STATIC = Pattern.compile("\\bstatic (?!final|class)[^(]*(=|;)");
    private static final Pattern METHOD = Pattern.compile("^( +)(?!.*\\b(class|new|return)\\b).*\\) \\{$");

    public static void main(String[] args) throws IOException {
        List<String> lines = Files.readAllLines(Path.of("src/main/java/BelfryBox.java"));
        Pattern forbidden = Pattern.compile(FORBIDDEN);
        for (int i = 0; i < lines.size(); i++) {
            String line = lines.get(i);
            boolean remark = line.strip().startsWith("*") || line.strip().startsWith("/");
            Check.due("forbidden in line " + (i + 1) + ": " + line, !remark && forbidden.matcher(line).find(), false);
            Check.due("a static field in line " + (i + 1), STATIC.matcher(line).find(), false);
            Check.due("import in line " + (i + 1),
                    line.startsWith("import") && !line.equals("import java.util.Arrays;"), false);
        }
        methodLengths(lines);
        sizes(lines);
        Check.end();
    }

    private static void sizes(List<String> lines) {
        int classes = 0;
        for (String line : lines) {
            if (line.matches(" *(public |private static )final class \\w+ \\{")) {
                classes++;
            }
            if (METHOD.matcher(line).matches()) {
                int parameters = line.replaceAll("[^,]", "").length() + 1;
                Check.due("at most seven parameters: " + line.strip(), parameters <= 7, true);
            }
        }
        Check.due("some twelve classes at most", classes > 1 && classes <= 12, true);
    }

    private static void methodLengths(List<String> lines) {
        int methods = 0;
        for (int i = 0; i < lines.size(); i++) {
            Matcher head = METHOD.matcher(lines.get(i));
            if (head.matches() && (head.group(1).length() == 4 || head.group(1).length() == 8)) {
                String end = head.group(1) + "}";
                int length = 1;
                while (i + length < lines.size() && !lines.get(i + length).equals(end)) {
                    length++;
                }
                methods++;
                Check.due("a short method: " + lines.get(i).strip(), length < 60, true);
            }
        }
        Check.due("methods were found", methods > 100, true);
    }
}
