import java.io.IOException;
import java.lang.reflect.Field;
import java.lang.reflect.Method;
import java.lang.reflect.Modifier;
import java.nio.file.Files;
import java.nio.file.Path;
import java.util.HashSet;
import java.util.List;
import java.util.Set;

/**
 * What of ../shared/LANGUAGE.md can be seen from the syntax tree of the source (.ci/run starts it in the
 * project's root) and from the shape of the compiled classes. It is stricter than the rules where the
 * class has no need of what they leave: so a new type or library call has to be added here on purpose.
 */
public final class LanguageTest {
    private static final Path SOURCE = Path.of("src/main/java/BarrierDispatch.java");
    private static final Set<String> TYPES = Set.of("int", "long", "boolean", "void",
            "BarrierDispatch.Queue", "BarrierDispatch.Block", "BarrierDispatch.Group",
            "BarrierDispatch.Queue[]", "BarrierDispatch.Block[]", "BarrierDispatch.Group[]");
    private static final Set<String> LIBRARY = Set.of("java.lang.Math.max", "java.lang.Math.min");
    private static final Set<String> MAKERS =
            Set.of("BarrierDispatch.<init>", "BarrierDispatch.queue", "BarrierDispatch.accept");
    private static final List<Class<?>> CONSTANTS =
            List.of(int.class, long.class, boolean.class, char.class, String.class);
    private static final Due DUE = new Due();

    public static void main(String[] args) throws IOException {
        SourceScan scan = new SourceScan(SOURCE);
        constructs(scan);
        onlyWhatIsListed(scan);
        lengthsAndDepths(scan);
        constructors(scan);
        classesInside(scan);
        for (Class<?> each : BarrierDispatch.class.getNestMembers()) {
            fields(each);
            methods(each);
        }
        DUE.end();
    }

    private static void constructs(SourceScan scan) throws IOException {
        DUE.part("rules 2, 3, 5, 6, 9, 10 and 12, the constructs");
        for (String each : scan.ruledOut) {
            DUE.no("the source has " + each, true);
        }
        DUE.no("the source has a character that is not ASCII",
                Files.readString(SOURCE).chars().anyMatch(each -> each > 127));
    }

    private static void onlyWhatIsListed(SourceScan scan) {
        DUE.part("rules 3, 4, 12 and 13, types, library and makers");
        DUE.yes("types were found", scan.types.contains("int"));
        for (String type : scan.types) {
            DUE.yes("a type of the list: " + type, TYPES.contains(type));
        }
        for (String call : scan.library) {
            DUE.yes("a library call of the list: " + call, LIBRARY.contains(call));
        }
        for (String maker : scan.makers) {
            DUE.yes("makes objects only where one is kept: " + maker, MAKERS.contains(maker));
        }
    }

    private static void lengthsAndDepths(SourceScan scan) {
        DUE.part("rules 8 and 11, lengths and depths");
        DUE.yes("methods were found", scan.lengths.size() > 20);
        for (String method : scan.lengths.keySet()) {
            DUE.yes("sixty lines at most: " + method, scan.lengths.get(method) <= 60);
            DUE.yes("no recursion, and eight calls deep at most: " + method, scan.depth(method) <= 8);
        }
    }

    private static void constructors(SourceScan scan) {
        DUE.part("rule 12, a constructor calls no method");
        for (String method : scan.calls.keySet()) {
            for (String called : scan.calls.get(method)) {
                boolean makes = called.endsWith(".<init>");
                DUE.yes(method + " calls " + called, makes || !method.endsWith(".<init>"));
            }
        }
    }

    private static void classesInside(SourceScan scan) {
        DUE.part("rules 1, 2 and 11, the classes inside");
        Class<?>[] inside = BarrierDispatch.class.getDeclaredClasses();
        DUE.is("classes of the source", scan.classes.size(), inside.length + 1);
        DUE.is("no local or anonymous class", inside.length + 1, BarrierDispatch.class.getNestMembers().length);
        DUE.yes("twelve classes at most", inside.length < 12);
        for (Class<?> each : inside) {
            DUE.yes("static: " + each, Modifier.isStatic(each.getModifiers()));
            DUE.no("public or protected: " + each, (each.getModifiers() & (Modifier.PUBLIC | Modifier.PROTECTED)) != 0);
        }
    }

    private static void fields(Class<?> each) {
        DUE.part("rules 5 and 11, the fields of " + each);
        int beside = 0;
        for (Field field : each.getDeclaredFields()) {
            if (!Modifier.isStatic(field.getModifiers())) {
                beside++;
                continue;
            }
            DUE.yes("final: " + field, Modifier.isFinal(field.getModifiers()));
            DUE.yes("a constant: " + field, CONSTANTS.contains(field.getType()));
        }
        DUE.yes("twenty fields at most", beside <= 20);
    }

    private static void methods(Class<?> each) {
        DUE.part("rules 1 and 11, the methods of " + each);
        Set<String> face = new HashSet<>();
        for (Method method : BarrierDispatch.class.getDeclaredMethods()) {
            if (Modifier.isPublic(method.getModifiers())) {
                face.add(method.getName());
            }
        }
        for (Method method : each.getDeclaredMethods()) {
            DUE.yes("seven parameters at most: " + method, method.getParameterCount() <= 7);
            boolean isPublic = Modifier.isPublic(method.getModifiers());
            DUE.yes("a name of its own: " + method, isPublic || !face.contains(method.getName()));
        }
    }
}
