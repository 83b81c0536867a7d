import java.io.IOException;
import java.lang.reflect.Method;
import java.lang.reflect.Modifier;
import java.nio.file.DirectoryStream;
import java.nio.file.Files;
import java.nio.file.Path;
import java.util.ArrayList;
import java.util.List;
import java.util.regex.Matcher;
import java.util.regex.Pattern;

// What README.md tells of the class is so: its examples are one run of calls, each with its answer; each
// call has a row of its own, each number a refusal; each test is named.
public final class ReadmeTest {
    private static final Runs RUNS = new Runs();
    private static final Pattern EXAMPLES = Pattern.compile("(?s)```java\n(.*?)```");
    private static final Pattern MADE = Pattern.compile("AHundredSights x = new AHundredSights\\(\\);.*");
    private static final Pattern CALLED = Pattern.compile("x\\.(\\w+\\([^)]*\\)); +// (-?\\w+)(?:: .*)?");
    private static final Pattern FED =
        Pattern.compile("for \\(char letter : (\"[^\"]*\")\\.toCharArray\\(\\)\\) x\\.feed\\(letter\\);");
    private static final String[] REFUSALS = {
        "`BAD` (-2)", "`STATE` (-3)", "`FULL` (-4)", "-11", "-12", "-13", "-14", "-100000", "-100 and less", "`NO`",
    };

    public static void main(String[] args) throws IOException {
        String readme = Files.readString(Path.of("README.md"));
        String examples = examplesOf(readme);
        RUNS.of("README.md: its examples", examples.split("\n"));
        for (Method method : AHundredSights.class.getDeclaredMethods()) {
            if (Modifier.isPublic(method.getModifiers())) {
                dueIn(readme, "\n| `" + method.getName() + "(");
                dueIn("\n" + examples, "\n" + method.getName() + (method.getName().equals("feed") ? " " : "("));
            }
        }
        for (String refusal : REFUSALS) {
            dueIn(readme, "\n| " + refusal + " | ");
        }
        try (DirectoryStream<Path> tests = Files.newDirectoryStream(Path.of("src/test/java"), "*.java")) {
            for (Path test : tests) {
                dueIn(readme, "`" + test.getFileName().toString().replace(".java", "") + "`");
            }
        }
        RUNS.end();
    }

    /** As lines of a run. */
    private static String examplesOf(String readme) {
        List<String> lines = new ArrayList<>();
        Matcher blocks = EXAMPLES.matcher(readme);
        while (blocks.find()) {
            for (String line : blocks.group(1).split("\n")) {
                lines.add(exampleOf(line));
            }
        }
        return String.join("\n", lines);
    }

    private static String exampleOf(String line) {
        Matcher called = CALLED.matcher(line);
        Matcher fed = FED.matcher(line);
        if (called.matches()) {
            return called.group(1) + " = " + called.group(2);
        }
        if (fed.matches()) {
            return "feed " + fed.group(1);
        }
        if (!MADE.matcher(line).matches()) {
            throw new IllegalArgumentException("README.md: no call with its answer: " + line);
        }
        return "new";
    }

    private static void dueIn(String all, String part) {
        RUNS.same("README.md: whether '" + part.trim() + "' stands there", all.contains(part) ? 1 : 0, 1);
    }
}
