import java.lang.reflect.Constructor;
import java.lang.reflect.Field;
import java.lang.reflect.Method;
import java.lang.reflect.Modifier;
import java.util.Arrays;
import java.util.TreeSet;

/** The public face: every constant, the constructor and every method of the document, and nothing else. */
public final class FaceTest {
    private static final String[] FACE = {
        "constant int NOQUEUE = -1", "constant int NOGROUP = -2", "constant int NOBLOCK = -3",
        "constant int FULL = -4", "constant int CYCLE = -5", "constant int BUSY = -6",
        "constant int DEADLOCK = -7", "constant int IDLE = -8", "constant int BAD = -9",
        "constant long FOREVER = 9223372036854775807",
        "constructor [int]",
        "int queue[int, int]", "int retarget[int, int]", "int submit[int, boolean, int]",
        "int after[int, long]", "int call[int, int, boolean]", "int whenDone[int, int]",
        "boolean enter[int]", "boolean leave[int]", "boolean cancel[int]", "int hold[int, boolean]",
        "int begin[]", "boolean finish[int]", "int advance[long]", "long now[]", "int state[int]",
        "int queued[int]", "int through[int]", "int peak[int]", "int count[int]", "int ready[]",
    };

    public static void main(String[] args) throws IllegalAccessException {
        Due due = new Due();
        due.part("the face");
        due.yes("public class", Modifier.isPublic(BarrierDispatch.class.getModifiers()));
        due.yes("final class", Modifier.isFinal(BarrierDispatch.class.getModifiers()));
        TreeSet<String> found = found(due);
        for (String wanted : FACE) {
            due.yes("there is: " + wanted, found.remove(wanted));
        }
        due.is("members beyond the face " + found, 0, found.size());
        due.end();
    }

    private static TreeSet<String> found(Due due) throws IllegalAccessException {
        TreeSet<String> found = new TreeSet<>();
        for (Field field : BarrierDispatch.class.getDeclaredFields()) {
            boolean constant = Modifier.isStatic(field.getModifiers()) && Modifier.isFinal(field.getModifiers());
            due.yes("a static field is final: " + field, constant || !Modifier.isStatic(field.getModifiers()));
            if (Modifier.isPublic(field.getModifiers()) && constant) {
                found.add("constant " + field.getType() + " " + field.getName() + " = " + field.get(null));
            } else if (!Modifier.isPrivate(field.getModifiers())) {
                found.add(field.toString());
            }
        }
        for (Constructor<?> made : BarrierDispatch.class.getDeclaredConstructors()) {
            found.add((Modifier.isPublic(made.getModifiers()) ? "" : "hidden ") + "constructor "
                    + Arrays.toString(made.getParameterTypes()));
        }
        for (Method method : BarrierDispatch.class.getDeclaredMethods()) {
            if (!Modifier.isPrivate(method.getModifiers())) {
                found.add((Modifier.isPublic(method.getModifiers()) ? "" : "hidden ")
                        + (Modifier.isStatic(method.getModifiers()) ? "static " : "")
                        + method.getReturnType() + " " + method.getName()
                        + Arrays.toString(method.getParameterTypes()));
            }
        }
        return found;
    }
}
