import java.lang.reflect.Constructor;
import java.lang.reflect.Field;
import java.lang.reflect.Method;
import java.lang.reflect.Modifier;
import java.util.Arrays;
import java.util.Set;
import java.util.TreeSet;

/** The face is that of the document, and nothing else can be seen from outside. */
public final class FaceTest {
    private static final String INDEX = "IndexOutOfBoundsException";
    private static final String ARGUMENT = "IllegalArgumentException";
    private static final String STATE = "IllegalStateException";

    private static final String[] FACE = {
        "int addPlayer(1) " + ARGUMENT + " " + STATE,
        "int player(2) " + INDEX,
        "int buy(2) " + INDEX + " " + ARGUMENT + " " + STATE,
        "int sell(2) " + INDEX + " " + ARGUMENT + " " + STATE,
        "int borrow(4) " + INDEX + " " + ARGUMENT + " " + STATE,
        "int repay(2) " + INDEX + " " + ARGUMENT + " " + STATE,
        "int loan(2) " + INDEX,
        "int begin(6) " + INDEX + " " + ARGUMENT + " " + STATE,
        "int press(1) " + INDEX + " " + STATE,
        "int put(3) " + INDEX + " " + ARGUMENT + " " + STATE,
        "int steal(3) " + INDEX + " " + ARGUMENT + " " + STATE,
        "int end(2) " + INDEX + " " + ARGUMENT + " " + STATE,
        "int game(2) " + INDEX,
        "int pass(1) " + ARGUMENT + " " + STATE,
        "int count(1) " + INDEX,
        "int foresee(2) " + ARGUMENT + " " + INDEX + " " + STATE,
        "int leader(1) " + INDEX,
        "int needs(2) " + INDEX + " " + ARGUMENT,
        "double mean(0)",
        "long digest(0)",
    };

    public static void main(String[] args) {
        theClass();
        theMethods();
        theFields();
        theClassesInside();
        Check.finish();
    }

    private static void theClass() {
        int modifiers = MinuteBank.class.getModifiers();
        Check.holds("public", Modifier.isPublic(modifiers));
        Check.holds("final", Modifier.isFinal(modifiers));
        Constructor<?>[] made = MinuteBank.class.getDeclaredConstructors();
        Check.same("constructors", 1, made.length);
        Check.same("of no arguments", 0, made[0].getParameterCount());
        Check.holds("public constructor", Modifier.isPublic(made[0].getModifiers()));
    }

    private static void theMethods() {
        Set<String> seen = new TreeSet<>();
        for (Method method : MinuteBank.class.getDeclaredMethods()) {
            if (Modifier.isPublic(method.getModifiers())) {
                seen.add(told(method));
            } else {
                Check.holds(method + " is private", Modifier.isPrivate(method.getModifiers()));
            }
        }
        Set<String> due = new TreeSet<>(Arrays.asList(FACE));
        Check.holds("the methods " + seen, seen.equals(due));
    }

    private static String told(Method method) {
        StringBuilder text = new StringBuilder();
        text.append(method.getReturnType()).append(' ').append(method.getName());
        text.append('(').append(method.getParameterCount()).append(')');
        for (Class<?> thrown : method.getExceptionTypes()) {
            text.append(' ').append(thrown.getSimpleName());
        }
        return text.toString();
    }

    private static void theFields() {
        for (Field field : MinuteBank.class.getDeclaredFields()) {
            Check.holds(field + " is private", Modifier.isPrivate(field.getModifiers()));
            Check.holds(field + " is final", Modifier.isFinal(field.getModifiers()));
        }
    }

    private static void theClassesInside() {
        for (Class<?> inside : MinuteBank.class.getDeclaredClasses()) {
            int modifiers = inside.getModifiers();
            Check.holds(inside + " is static", Modifier.isStatic(modifiers));
            Check.holds(inside + " is not public", !Modifier.isPublic(modifiers));
            Check.holds(inside + " is not protected", !Modifier.isProtected(modifiers));
            for (Method method : inside.getDeclaredMethods()) {
                Check.holds(method + " has a name of its own", !isOfTheFace(method.getName()));
            }
        }
    }

    private static boolean isOfTheFace(String name) {
        for (String method : FACE) {
            if (method.contains(" " + name + "(")) {
                return true;
            }
        }
        return false;
    }
}
