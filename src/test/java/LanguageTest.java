import java.io.IOException;
import java.lang.reflect.Field;
import java.lang.reflect.Method;
import java.lang.reflect.Modifier;
import java.nio.file.Files;
import java.nio.file.Path;
import java.util.HashSet;
import java.util.List;
import java.util.Set;
import java.util.regex.Matcher;
import java.util.regex.Pattern;

/**
 * What of ../shared/LANGUAGE.md can be seen from the words of the source (.ci/run starts it in the
 * project's root) and from the shape of the compiled classes.
 */
public final class LanguageTest {
    private static final String[] RULED_OUT = {
        "\\bpackage\\b", "\\bimport\\b", "\\bthrows?\\b", "\\btry\\b", "\\bcatch\\b", "\\bsynchronized\\b",
        "\\bassert\\b", "->", "::", "\\bprotected\\b", "Exact\\b", "\\bRandom\\b", "\\bThread\\b", "\\bSystem\\.(?!arraycopy)",
        "\\bequals\\b", "\\bhashCode\\b", "\\btoString\\b", "\\bObject\\b", "static \\{", "[^\\x00-\\x7f]",
    };
    private static final Pattern COMMENT = Pattern.compile("/\\*.*?\\*/|//[^\\n]*", Pattern.DOTALL);
    private static final Pattern METHOD = Pattern.compile(
            "^ {4}(?:private|public)[^;=]*\\) \\{\\n(.*?)^ {4}\\}", Pattern.DOTALL | Pattern.MULTILINE);
    private static final List<Class<?>> CONSTANTS =
            List.of(int.class, long.class, boolean.class, char.class, String.class);
    private static final Due DUE = new Due();

    public static void main(String[] args) throws IOException {
        String text = Files.readString(Path.of("src/main/java/BarrierDispatch.java"));
        String code = COMMENT.matcher(text).replaceAll("");
        words(code);
        lengths(code);
        classesInside();
        for (Class<?> each : BarrierDispatch.class.getNestMembers()) {
            fields(each);
            methods(each);
        }
        DUE.end();
    }

    private static void words(String code) {
        DUE.part("rules 3, 4, 5, 6 and 13, the words");
        for (String words : RULED_OUT) {
            DUE.no("the source has " + words, Pattern.compile(words).matcher(code).find());
        }
    }

    private static void lengths(String code) {
        DUE.part("rule 11, some sixty lines");
        Matcher method = METHOD.matcher(code);
        int methods = 0;
        while (method.find()) {
            methods++;
            long lines = method.group(1).lines().count();
            DUE.yes("sixty lines at most: " + method.group().lines().findFirst().orElse(""), lines <= 60);
        }
        DUE.yes("methods were found", methods > 20);
    }

    private static void classesInside() {
        DUE.part("rules 1, 2 and 11, the classes inside");
        Class<?>[] inside = BarrierDispatch.class.getDeclaredClasses();
        DUE.is("no local or anonymous class", inside.length + 1, BarrierDispatch.class.getNestMembers().length);
        DUE.yes("twelve classes at most", inside.length < 12);
        for (Class<?> each : inside) {
            DUE.yes("static: " + each, Modifier.isStatic(each.getModifiers()));
            DUE.no("public or protected: " + each, (each.getModifiers() & (Modifier.PUBLIC | Modifier.PROTECTED)) != 0);
        }
    }

    private static void fields(Class<?> each) {
        DUE.part("rules 5 and 11, the fields of " + each);
        int beside = 0;
        for (Field field : each.getDeclaredFields()) {
            if (!Modifier.isStatic(field.getModifiers())) {
                beside++;
                continue;
            }
            DUE.yes("final: " + field, Modifier.isFinal(field.getModifiers()));
            DUE.yes("a constant: " + field, CONSTANTS.contains(field.getType()));
        }
        DUE.yes("twenty fields at most", beside <= 20);
    }

    private static void methods(Class<?> each) {
        DUE.part("rules 1 and 11, the methods of " + each);
        Set<String> face = new HashSet<>();
        for (Method method : BarrierDispatch.class.getDeclaredMethods()) {
            if (Modifier.isPublic(method.getModifiers())) {
                face.add(method.getName());
            }
        }
        for (Method method : each.getDeclaredMethods()) {
            DUE.yes("seven parameters at most: " + method, method.getParameterCount() <= 7);
            boolean isPublic = Modifier.isPublic(method.getModifiers());
            DUE.yes("a name of its own: " + method, isPublic || !face.contains(method.getName()));
        }
    }
}
