import java.lang.reflect.Constructor;
import java.lang.reflect.Field;
import java.lang.reflect.Method;
import java.lang.reflect.Modifier;
import java.util.ArrayList;
import java.util.Arrays;
import java.util.List;
import java.util.Set;
import java.util.TreeSet;

/** The public face is the document's, and the bounds of LANGUAGE.md that show from outside hold. */
public final class FaceTest {
    private static final String INDEX = "IndexOutOfBoundsException";
    private static final String ARGUMENT = "IllegalArgumentException";
    private static final String STATE = "IllegalStateException";

    private static final String[] FACE = {
        "GridEstimator(int)",
        "int NONE",
        "int FLOW",
        "int INJECTION",
        "int addLine(int, int, int) " + INDEX + " " + ARGUMENT + " " + STATE,
        "boolean setBreaker(int, boolean) " + INDEX,
        "int islands()",
        "int reference(int) " + INDEX,
        "int addMeter(int, int, int, int) " + ARGUMENT + " " + INDEX + " " + STATE,
        "int read(int, int) " + INDEX + " " + ARGUMENT,
        "boolean use(int, boolean) " + INDEX,
        "int countsIn(int) " + INDEX,
        "int rank(int) " + INDEX,
        "boolean isObservable(int) " + INDEX,
        "boolean isCritical(int) " + INDEX,
        "long angleNumerator(int) " + INDEX + " " + STATE,
        "long angleDenominator(int) " + INDEX + " " + STATE,
        "long residualNumerator(int) " + INDEX + " " + STATE,
        "long residualDenominator(int) " + INDEX + " " + STATE,
        "int worst(int) " + INDEX + " " + STATE,
        "int clean(int, int) " + INDEX + " " + ARGUMENT + " " + STATE,
    };

    private static final Due due = new Due();

    public static void main(String[] args) {
        face();
        memberNames();
        bounds();
        due.close();
    }

    private static void face() {
        Class<?> program = GridEstimator.class;
        due.holds("the class is public and final", program.getModifiers() == (Modifier.PUBLIC | Modifier.FINAL));
        Set<String> found = new TreeSet<>();
        for (Constructor<?> made : program.getDeclaredConstructors()) {
            found.add(program.getSimpleName() + list(made.getParameterTypes()) + names(made.getExceptionTypes()));
        }
        for (Field field : program.getDeclaredFields()) {
            if (!Modifier.isPrivate(field.getModifiers())) {
                found.add(field.getType().getSimpleName() + " " + field.getName());
                due.holds(field.getName() + " is a constant",
                        field.getModifiers() == (Modifier.PUBLIC | Modifier.STATIC | Modifier.FINAL));
            }
        }
        for (Method method : program.getDeclaredMethods()) {
            if (!Modifier.isPrivate(method.getModifiers())) {
                found.add(method.getReturnType().getSimpleName() + " " + method.getName()
                        + list(method.getParameterTypes()) + names(method.getExceptionTypes()));
                due.holds(method.getName() + " is public alone", method.getModifiers() == Modifier.PUBLIC);
            }
        }
        due.compare("the face", new TreeSet<>(Arrays.asList(FACE)).toString(), found.toString());
    }

    private static void memberNames() {
        Set<String> open = new TreeSet<>();
        for (Method method : GridEstimator.class.getMethods()) {
            open.add(method.getName());
        }
        for (Class<?> part : parts()) {
            for (Method method : part.getDeclaredMethods()) {
                due.holds(method.getName() + " has a name of its own",
                        Modifier.isPublic(method.getModifiers()) || !open.contains(method.getName()));
            }
        }
    }

    private static void bounds() {
        due.holds("at most 12 classes", parts().size() <= 12);
        for (Class<?> part : parts()) {
            String name = part.getSimpleName();
            int fields = 0;
            for (Field field : part.getDeclaredFields()) {
                fields += Modifier.isStatic(field.getModifiers()) ? 0 : 1;
                due.holds(name + "." + field.getName() + " is no static state",
                        !Modifier.isStatic(field.getModifiers()) || Modifier.isFinal(field.getModifiers()));
            }
            due.holds(name + " has at most 20 fields", fields <= 20);
            due.holds(name + " is static inside", part == GridEstimator.class
                    || Modifier.isStatic(part.getModifiers()) && !Modifier.isPublic(part.getModifiers()));
            for (Method method : part.getDeclaredMethods()) {
                due.holds(method.getName() + " takes at most 7", method.getParameterCount() <= 7);
            }
        }
    }

    private static List<Class<?>> parts() {
        List<Class<?>> parts = new ArrayList<>(List.of(GridEstimator.class.getDeclaredClasses()));
        parts.add(GridEstimator.class);
        return parts;
    }

    private static String list(Class<?>[] types) {
        List<String> names = new ArrayList<>();
        for (Class<?> type : types) {
            names.add(type.getSimpleName());
        }
        return "(" + String.join(", ", names) + ")";
    }

    private static String names(Class<?>[] types) {
        StringBuilder names = new StringBuilder();
        for (Class<?> type : types) {
            names.append(" ").append(type.getSimpleName());
        }
        return names.toString();
    }
}
