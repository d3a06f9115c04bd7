import java.io.IOException;
import java.nio.file.Files;
import java.nio.file.Path;
import java.util.List;
import java.util.regex.Matcher;
import java.util.regex.Pattern;
import java.util.stream.Stream;

/** README.md tells the truth: its calls answer what stands behind them, and it leaves nothing out. */
public final class ReadmeTest {
    private static final String NEW_OBJECT = "CarriedCommits x = new CarriedCommits();";
    private static final Pattern BLOCK = Pattern.compile("(?s)```java\n(.*?)```");
    private static final Pattern CALL = Pattern.compile("x\\.(\\w+\\([^)]*\\)); *// (-?\\d+)(?::.*)?");

    private ReadmeTest() {
    }

    public static void main(String[] args) throws IOException {
        String readme = Files.readString(Path.of("README.md"));
        int blocks = 0;
        Matcher block = BLOCK.matcher(readme);
        while (block.find()) {
            blocks++;
            Script.run("README.md, block " + blocks, script(block.group(1).strip().split("\n")));
        }
        Script.holds("README.md has blocks of code", blocks > 0);
        for (String method : Script.publicMethods(CarriedCommits.class).keySet()) {
            Script.holds("README.md names " + method, readme.matches("(?s).*`" + method + "(\\(\\))?`.*"));
        }
        for (String test : tests()) {
            Script.holds("README.md names " + test, readme.contains("`" + test + "`"));
        }
        Script.holds("README.md says how to run the tests", readme.contains(".ci/run"));
        Script.end();
    }

    /** A line that is no call with an answer would stand there untested, so that it fails. */
    private static String script(String[] lines) {
        Script.holds("the block begins with a new object: " + lines[0], lines[0].equals(NEW_OBJECT));
        StringBuilder text = new StringBuilder();
        for (int i = 1; i < lines.length; i++) {
            Matcher call = CALL.matcher(lines[i]);
            boolean isCall = call.matches();
            Script.holds("a call with its answer: " + lines[i], isCall);
            if (isCall) {
                text.append(call.group(1)).append(" = ").append(call.group(2)).append("; ");
            }
        }
        return text.toString();
    }

    private static List<String> tests() throws IOException {
        try (Stream<Path> files = Files.list(Path.of("src/test/java"))) {
            return files.map(file -> file.getFileName().toString())
                    .filter(name -> name.endsWith("Test.java"))
                    .map(name -> name.substring(0, name.length() - ".java".length()))
                    .toList();
        }
    }
}
