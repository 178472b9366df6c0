import java.io.IOException;
import java.nio.file.Files;
import java.nio.file.Path;
import java.util.regex.Matcher;
import java.util.regex.Pattern;

/** What the text of the program shows of the rules of LANGUAGE.md; it is found from the project's root. */
public final class RulesTest {
    private static final Path PROGRAM = Path.of("src/main/java/MissionDesk.java");
    private static final String[] RULED_OUT = {
        "\\bthrow\\b", "\\bthrows\\b", "\\btry\\b", "\\bcatch\\b", "\\bsynchronized\\b", "\\bassert\\b", "::", "\\bpackage\\b",
        "\\bimport (?!java\\.util\\.(ArrayList|List|Arrays|Iterator);)", "\\bSystem\\.(?!arraycopy)", "Exact\\(",
        "\\bstatic\\s*\\{", "\\bwhile\\s*\\(true\\)", "\\bfor\\s*\\(;;\\)"};
    /** "Some sixty lines." */
    private static final int LONGEST_METHOD = 70;

    private static int wrong;

    public static void main(String[] args) throws IOException {
        String text = Files.readString(PROGRAM).replaceAll("(?s)/\\*.*?\\*/", "").replaceAll("//[^\n]*", "");
        for (String ruledOut : RULED_OUT) {
            Matcher matcher = Pattern.compile(ruledOut).matcher(text);
            if (matcher.find()) {
                tell("the program has " + matcher.group());
            }
        }
        methodsAreShort(text.split("\n"));
        System.out.println("rules: " + wrong + " wrong");
        if (wrong != 0) {
            System.exit(1);
        }
    }

    /** A method begins with a line that ends in ") {" at the depth of a member, and ends with its brace. */
    private static void methodsAreShort(String[] lines) {
        int begun = -1;
        String indent = "";
        for (int n = 0; n < lines.length; n++) {
            if (begun < 0 && lines[n].matches("( {4}| {8})(public|private|[A-Za-z\\[\\]]+) ?.*\\) \\{")
                    && !lines[n].matches("\\s*(if|for|while|switch|\\}).*")) {
                begun = n;
                indent = lines[n].replaceAll("\\S.*", "");
            } else if (begun >= 0 && lines[n].equals(indent + "}")) {
                if (n - begun + 1 > LONGEST_METHOD) {
                    tell("too long: " + lines[begun].trim());
                }
                begun = -1;
            }
        }
    }

    private static void tell(String what) {
        wrong++;
        System.out.println("rules: " + what);
    }
}
