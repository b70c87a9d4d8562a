import java.lang.reflect.Constructor;
import java.lang.reflect.Field;
import java.lang.reflect.Method;
import java.lang.reflect.Modifier;
import java.util.Arrays;
import java.util.Set;
import java.util.TreeSet;

/** The public face is the document's, and nothing else of the class can be seen from outside. */
public final class FaceTest {
    private static final String[] FACE = {
        "void clear()",
        "int put(int) IllegalArgumentException IllegalStateException UnsupportedOperationException",
        "int at(int) IndexOutOfBoundsException",
        "void context(boolean, int, int, int) IllegalArgumentException",
        "int state(boolean, int) IllegalArgumentException",
        "void open(boolean) IllegalStateException",
        "int write(int, long, int) IllegalStateException IllegalArgumentException UnsupportedOperationException",
        "int enough() IllegalStateException",
        "int close(int) IllegalStateException IllegalArgumentException",
        "void read(boolean, int, int) IllegalStateException IllegalArgumentException",
        "long bits(int, int) IllegalStateException IllegalArgumentException",
        "int register(int)",
    };

    private FaceTest() {
    }

    public static void main(String[] args) {
        Set<String> seen = new TreeSet<>();
        Set<String> names = new TreeSet<>();
        for (Method method : LikelyBits.class.getDeclaredMethods()) {
            if (!Modifier.isPrivate(method.getModifiers())) {
                seen.add(text(method));
                names.add(method.getName());
            }
        }
        Checks.due("the face", seen.toString(), new TreeSet<>(Arrays.asList(FACE)).toString());
        for (Method method : LikelyBits.class.getDeclaredMethods()) {
            boolean bears = Modifier.isPrivate(method.getModifiers()) && names.contains(method.getName());
            Checks.due("private " + method.getName() + " bears a public name", bears ? 1 : 0, 0);
        }
        for (Field field : LikelyBits.class.getDeclaredFields()) {
            Checks.due("field " + field.getName() + " is private", isPrivate(field.getModifiers()), 1);
        }
        Constructor<?>[] constructors = LikelyBits.class.getDeclaredConstructors();
        Checks.due("constructors", constructors.length, 1);
        Checks.due("the constructor", constructors[0].toString(), "public LikelyBits()");
        Checks.due("the class", Modifier.toString(LikelyBits.class.getModifiers()), "public final");
        Checks.end();
    }

    private static int isPrivate(int modifiers) {
        return Modifier.isPrivate(modifiers) ? 1 : 0;
    }

    private static String text(Method method) {
        StringBuilder text = new StringBuilder(method.getReturnType().toString());
        text.append(' ').append(method.getName()).append('(');
        String between = "";
        for (Class<?> type : method.getParameterTypes()) {
            text.append(between).append(type);
            between = ", ";
        }
        text.append(')');
        for (Class<?> thrown : method.getExceptionTypes()) {
            text.append(' ').append(thrown.getSimpleName());
        }
        return text.toString();
    }
}
