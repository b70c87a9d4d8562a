import java.io.IOException;
import java.lang.reflect.Executable;
import java.lang.reflect.Field;
import java.lang.reflect.Modifier;
import java.nio.charset.StandardCharsets;
import java.nio.file.Files;
import java.nio.file.Path;
import java.util.ArrayList;
import java.util.Arrays;
import java.util.List;
import java.util.Set;
import java.util.regex.Matcher;
import java.util.regex.Pattern;

/** Those rules of LANGUAGE.md that can be seen from the class's text or from the class itself. */
public final class LanguageTest {
    private static final Path SOURCE = Path.of("src/main/java/LikelyBits.java");
    private static final Set<String> EXCEPTIONS = Set.of("IllegalStateException", "IllegalArgumentException",
            "IndexOutOfBoundsException", "ArithmeticException", "UnsupportedOperationException",
            "NoSuchElementException", "RuntimeException");
    private static final Set<String> STATIC_TYPES =
            Set.of("int", "long", "boolean", "char", "String", "int[]", "long[]", "char[]", "byte[]");
    private static final Set<String> IMPORTS = Set.of("java.util.Arrays", "java.util.ArrayList", "java.util.List",
            "java.util.Iterator", "java.util.NoSuchElementException");
    /** The class needs none of these, so that rules 2, 6, 9 and 13 are kept by leaving them out. */
    private static final String[] LEFT_OUT = {
        "\\bpackage\\b", "\\bprotected\\b", "\\bfinally\\b", "\\btry\\b", "\\bcatch\\b", "\\bsynchronized\\b",
        "\\bassert\\b", "\\binstanceof\\b", "\\bvolatile\\b", "\\bnative\\b", "\\bwhile\\b", "->", "::",
        "\\bstatic\\s*\\{", "\\bhashCode\\b", "\\bequals\\b", "\\btoString\\b", "\\bSystem\\b", "\\bThread\\b",
        "Exact\\s*\\(", "\\bdouble\\b", "\\bfloat\\b", "\\bObject\\b", "\\bfor\\s*\\(\\s*;", "[/%]",
    };

    private LanguageTest() {
    }

    public static void main(String[] args) throws IOException {
        String text = Files.readString(SOURCE, StandardCharsets.UTF_8);
        String code = withoutTextsAndComments(text);
        charactersUpTo255(text);
        for (String pattern : LEFT_OUT) {
            Matcher found = Pattern.compile(pattern).matcher(code);
            Checks.due("the source has " + pattern, found.find() ? 1 : 0, 0);
        }
        importsOfTheList(code);
        throwsOfTheList(code);
        everyLoopCounts(code);
        methodsAreShort(code);
        List<Class<?>> classes = new ArrayList<>(Arrays.asList(LikelyBits.class.getDeclaredClasses()));
        classes.add(LikelyBits.class);
        Checks.due("some twelve classes at most", classes.size() <= 12 ? 1 : 0, 1);
        for (Class<?> one : classes) {
            classIsAllowed(one);
            fieldsAreAllowed(one);
            parametersAreFew(one);
        }
        Checks.end();
    }

    private static String withoutTextsAndComments(String text) {
        return text.replaceAll("(?s)/\\*.*?\\*/", "").replaceAll("//[^\n]*", "").replaceAll("\"[^\"\n]*\"", "\"\"");
    }

    private static void charactersUpTo255(String text) {
        Checks.due("characters above 255", text.chars().filter(c -> c > 255).count(), 0);
    }

    private static void importsOfTheList(String code) {
        Matcher found = Pattern.compile("\\bimport\\s+([^;]+);").matcher(code);
        while (found.find()) {
            Checks.due("import of " + found.group(1), IMPORTS.contains(found.group(1)) ? 1 : 0, 1);
        }
    }

    private static void throwsOfTheList(String code) {
        Matcher found = Pattern.compile("\\bthrow\\b\\s*([^;]*);").matcher(code);
        while (found.find()) {
            String thrown = found.group(1);
            boolean plain = thrown.matches("new \\w+\\((\"\")?\\)");
            String name = thrown.replaceAll("^new |\\(.*", "");
            Checks.due("throw " + thrown, plain && EXCEPTIONS.contains(name) ? 1 : 0, 1);
        }
    }

    /** Each loop has a counter that goes up to a bound or down to 0. */
    private static void everyLoopCounts(String code) {
        Matcher found = Pattern.compile("\\bfor\\s*\\(([^{]*)\\)\\s*\\{").matcher(code);
        while (found.find()) {
            String head = found.group(1);
            boolean up = head.matches("int (\\w) = 0; \\1 < \\w+( && [^;|]+)?; \\1\\+\\+");
            boolean down = head.matches("int (\\w) = [^;]+; \\1 >= 0; \\1--");
            Checks.due("for (" + head + ") counts", up || down ? 1 : 0, 1);
        }
    }

    private static void methodsAreShort(String code) {
        Pattern method = Pattern.compile(
                "(?ms)^((?: {4}){1,2})(?!if\\b|for\\b|switch\\b|\\})(\\w[^;{}=]*\\))[^;{}()]*\\{\n(.*?)^\\1\\}$");
        Matcher found = method.matcher(code);
        int methods = 0;
        while (found.find()) {
            methods++;
            long lines = found.group(3).lines().count();
            Checks.due("lines of " + found.group(2) + " are some sixty at most", lines <= 60 ? 1 : 0, 1);
        }
        Checks.due("methods are found in the source", methods, methodsAndConstructorsWritten());
    }

    private static int methodsAndConstructorsWritten() {
        int all = LikelyBits.class.getDeclaredMethods().length + 1;
        for (Class<?> one : LikelyBits.class.getDeclaredClasses()) {
            all += one.getDeclaredMethods().length;
            all += one.getDeclaredConstructors()[0].getParameterCount() > 0 ? 1 : 0;
        }
        return all;
    }

    private static void classIsAllowed(Class<?> one) {
        int modifiers = one.getModifiers();
        boolean inside = one != LikelyBits.class;
        boolean allowed = inside
                ? Modifier.isStatic(modifiers) && !Modifier.isPublic(modifiers) && !Modifier.isProtected(modifiers)
                : Modifier.isPublic(modifiers) && Modifier.isFinal(modifiers);
        Checks.due("class " + one.getName() + " is as rule 1 wants it", allowed ? 1 : 0, 1);
        Checks.due("class " + one.getName() + " has none inside", inside ? one.getDeclaredClasses().length : 0, 0);
    }

    private static void fieldsAreAllowed(Class<?> one) {
        int own = 0;
        for (Field field : one.getDeclaredFields()) {
            if (Modifier.isStatic(field.getModifiers())) {
                boolean allowed = Modifier.isFinal(field.getModifiers())
                        && STATIC_TYPES.contains(field.getType().getSimpleName());
                Checks.due("static " + field.getName() + " is a constant", allowed ? 1 : 0, 1);
            } else {
                own++;
            }
        }
        Checks.due("class " + one.getName() + " has some twenty fields at most", own <= 20 ? 1 : 0, 1);
    }

    private static void parametersAreFew(Class<?> one) {
        List<Executable> all = new ArrayList<>(Arrays.asList(one.getDeclaredMethods()));
        all.addAll(Arrays.asList(one.getDeclaredConstructors()));
        for (Executable each : all) {
            Checks.due(each + " has seven parameters at most", each.getParameterCount() <= 7 ? 1 : 0, 1);
            Checks.due(each + " is made by the compiler", each.isSynthetic() ? 1 : 0, 0);
        }
    }
}
