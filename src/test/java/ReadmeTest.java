import java.io.File;
import java.io.IOException;
import java.lang.reflect.Method;
import java.lang.reflect.Modifier;
import java.nio.charset.StandardCharsets;
import java.nio.file.Files;
import java.nio.file.Path;

/** README.md: its example answers as it says, and its tables leave out no call and no test. */
public final class ReadmeTest {
    private static final Path TESTS = Path.of("src/test/java");

    public static void main(String[] args) throws IOException {
        String readme = read(Path.of("README.md"));
        exampleAnswersAsItSays();
        exampleIsTheOneTriedHere(readme, read(TESTS.resolve("ReadmeTest.java")));
        everyCallHasItsRow(readme);
        everyTestHasItsRow(readme);
        Check.finish();
    }

    private static String read(Path path) throws IOException {
        return Files.readString(path, StandardCharsets.ISO_8859_1);
    }

    private static void exampleAnswersAsItSays() {
        Windlane field = new Windlane();
        int kite = field.kite(Windlane.DELTA, 10, 5);
        int borrower = field.borrower(1);
        field.lend(kite, borrower);
        field.wind(8, 4);
        int end = field.fly(kite, 2, 50);
        int down = field.wind(30, 0);
        Check.due("torn by the wind of 30", field.about(kite, 1), 1);
        int weight = field.patch(kite);
        Check.due("the end of the line", end, 254);
        Check.due("called down", down, 1);
        Check.due("weight", weight, 7);
    }

    /** Every line of the page's example stands in the method above, in the same words. */
    private static void exampleIsTheOneTriedHere(String readme, String test) {
        int begin = readme.indexOf("```java\n");
        int end = readme.indexOf("```", begin + 1);
        Check.isTrue("README.md has no example", begin >= 0 && end > begin);
        if (begin < 0 || end < begin) {
            return;
        }
        for (String line : readme.substring(begin + "```java\n".length(), end).split("\n")) {
            String code = line.replaceAll("//.*", "").trim();
            Check.isTrue("an example that is not tried: " + code, test.contains("\n        " + code + "\n"));
        }
        for (String answer : new String[] {"the end is 254\n", "// 1 kite is called down, and torn\n", "// 7\n"}) {
            Check.isTrue("the example does not say " + answer, readme.contains(answer));
        }
    }

    private static void everyCallHasItsRow(String readme) {
        int calls = 0;
        for (Method method : Windlane.class.getDeclaredMethods()) {
            if (Modifier.isPublic(method.getModifiers())) {
                calls++;
                Check.isTrue("README.md leaves out " + method, readme.contains("\n| `" + method.getName() + "("));
            }
        }
        Check.due("rows of calls", readme.split("\n\\| `[a-zA-Z]+\\(", -1).length - 1, calls);
    }

    private static void everyTestHasItsRow(String readme) {
        File[] files = TESTS.toFile().listFiles();
        Check.isTrue("there are no tests", files != null && files.length > 0);
        if (files == null) {
            return;
        }
        int tests = 0;
        for (File file : files) {
            String name = file.getName();
            if (name.endsWith("Test.java")) {
                tests++;
                String row = "\n| `" + name.substring(0, name.length() - ".java".length()) + "` |";
                Check.isTrue("README.md leaves out " + name, readme.contains(row));
            }
        }
        Check.due("rows of tests", readme.split("\n\\| `[a-zA-Z]+Test` ", -1).length - 1, tests);
    }
}
