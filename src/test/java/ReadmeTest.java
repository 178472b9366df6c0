import java.io.IOException;
import java.nio.file.Files;
import java.nio.file.Path;
import java.util.regex.Matcher;
import java.util.regex.Pattern;

/** The examples of README.md, found from the project's root: each line's comment begins with its answer. */
public final class ReadmeTest {
    private static final Path README = Path.of("README.md");
    private static final Pattern EXAMPLE = Pattern.compile("(?s)```java\n(.*?)```");
    private static final Pattern LINE = Pattern.compile("desk\\.(\\w+\\([^)]*\\)); +// (-?\\w+): .+");
    private static final int FEWEST_LINES = 30;

    public static void main(String[] args) throws IOException {
        Script script = new Script("README.md");
        int lines = 0;
        Matcher example = EXAMPLE.matcher(Files.readString(README));
        while (example.find()) {
            script.fresh("");
            for (String line : example.group(1).split("\n")) {
                if (line.equals("MissionDesk desk = new MissionDesk();")) {
                    continue;
                }
                Matcher call = LINE.matcher(line);
                if (!call.matches()) {
                    throw new IllegalStateException("README.md: not a call with its answer: " + line);
                }
                lines++;
                script.about(line).then(call.group(1) + "=" + call.group(2));
            }
        }
        if (lines < FEWEST_LINES) {
            throw new IllegalStateException("README.md: only " + lines + " lines of examples were found");
        }
        script.end();
    }
}
