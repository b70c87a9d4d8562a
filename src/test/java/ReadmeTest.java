import java.io.IOException;
import java.lang.reflect.Method;
import java.lang.reflect.Modifier;
import java.nio.file.DirectoryStream;
import java.nio.file.Files;
import java.nio.file.Path;

/** README.md shows what really happens, and leaves out no call and no test. */
public final class ReadmeTest {
    private static final Path README = Path.of("README.md");
    private static final Path TESTS = Path.of("src/test/java");

    private ReadmeTest() {
    }

    public static void main(String[] args) throws IOException {
        String readme = Files.readString(README);
        exampleAnswersAsItSays();
        exampleIsTheOneInTheReadme(readme);
        everyCallIsTold(readme);
        everyTestIsTold(readme);
        Checks.due("README.md tells how to run the tests", readme.contains("```sh\n.ci/run\n```") ? 1 : 0, 1);
        Checks.end();
    }

    private static void exampleAnswersAsItSays() {
        // The example begins.
        LikelyBits x = new LikelyBits();

        x.open(false);
        x.write(3, 0b00010000, 8);
        x.write(4, -1L, 64);
        int length = x.close(0);

        x.read(false, 0, length);
        long first = x.bits(3, 8);
        long second = x.bits(4, 64);
        // The example ends.
        Checks.due("the example's length", length, x.at(-1));
        Checks.due("the example's length is 2", length, 2);
        Checks.due("the example's first bits", first, 0b00010000);
        Checks.due("the example's second bits", second, -1L);
    }

    /** The lines that are compiled above are those that README.md shows, but for what it says of them. */
    private static void exampleIsTheOneInTheReadme(String readme) throws IOException {
        String source = Files.readString(TESTS.resolve("ReadmeTest.java"));
        String compiled = between(source, "// The example begins.\n", "        // The example ends.\n");
        Checks.due("the example", plain(between(readme, "```java\n", "```\n")), plain(compiled));
    }

    private static String between(String text, String begin, String end) {
        int from = text.indexOf(begin) + begin.length();
        return text.substring(from, text.indexOf(end, from));
    }

    private static String plain(String code) {
        return code.replaceAll("//[^\n]*", "").replaceAll("\\s+", " ").trim();
    }

    private static void everyCallIsTold(String readme) {
        for (Method method : LikelyBits.class.getDeclaredMethods()) {
            if (Modifier.isPublic(method.getModifiers())) {
                boolean told = readme.contains("| `" + method.getName() + "(");
                Checks.due("README.md tells " + method.getName(), told ? 1 : 0, 1);
            }
        }
    }

    private static void everyTestIsTold(String readme) throws IOException {
        try (DirectoryStream<Path> tests = Files.newDirectoryStream(TESTS, "*Test.java")) {
            for (Path test : tests) {
                String name = test.getFileName().toString().replace(".java", "");
                Checks.due("README.md tells " + name, readme.contains("| " + name + " |") ? 1 : 0, 1);
            }
        }
    }
}
