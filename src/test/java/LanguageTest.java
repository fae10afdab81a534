import java.io.IOException;
import java.nio.file.Files;
import java.nio.file.Path;
import java.util.regex.Matcher;
import java.util.regex.Pattern;

/** What of ../shared/LANGUAGE.md can be seen from the words of the source (.ci/run starts it in the project's root). */
public final class LanguageTest {
    private static final String[] RULED_OUT = {
        "\\bpackage\\b", "\\bimport\\b", "\\bthrows?\\b", "\\btry\\b", "\\bcatch\\b", "\\bsynchronized\\b",
        "\\bassert\\b", "->", "::", "\\bprotected\\b", "Exact\\b", "\\bRandom\\b", "\\bThread\\b", "\\bSystem\\.(?!arraycopy)",
        "\\bequals\\b", "\\bhashCode\\b", "\\btoString\\b", "\\bObject\\b",
    };
    private static final Pattern COMMENT = Pattern.compile("/\\*.*?\\*/|//[^\\n]*", Pattern.DOTALL);
    private static final Pattern METHOD = Pattern.compile(
            "^ {4}(?:private|public)[^;=]*\\) \\{\\n(.*?)^ {4}\\}", Pattern.DOTALL | Pattern.MULTILINE);

    public static void main(String[] args) throws IOException {
        Due due = new Due();
        due.part("the language");
        String text = Files.readString(Path.of("src/main/java/BarrierDispatch.java"));
        String code = COMMENT.matcher(text).replaceAll("");
        for (String words : RULED_OUT) {
            due.no("the source has " + words, Pattern.compile(words).matcher(code).find());
        }
        Matcher method = METHOD.matcher(code);
        int methods = 0;
        while (method.find()) {
            methods++;
            long lines = method.group(1).lines().count();
            due.yes("sixty lines at most: " + method.group().lines().findFirst().orElse(""), lines <= 60);
        }
        due.yes("methods were found", methods > 20);
        due.end();
    }
}
