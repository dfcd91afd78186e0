import java.io.IOException;
import java.lang.reflect.Method;
import java.lang.reflect.Modifier;
import java.nio.file.Files;
import java.nio.file.Path;
import java.util.regex.Matcher;
import java.util.regex.Pattern;

/** The examples of README.md answer what it says there, and it names every call. */
public final class ReadmeTest {
    private static final Pattern TEXT = Pattern.compile("^String text = \"(.*)\";$");
    private static final Pattern CALL = Pattern.compile("^x\\.(\\w+)\\(([-\\d, ]*)\\); *// (-?\\d+): .*$");

    private ReadmeTest() {
    }

    public static void main(String[] args) throws IOException, ReflectiveOperationException {
        Check check = new Check("ReadmeTest");
        String page = Files.readString(Path.of("README.md"));
        Matcher example = Pattern.compile("(?s)```java\n(.*?)```").matcher(page);
        int calls = 0;
        while (example.find()) {
            calls += follow(check, example.group(1).split("\n"));
        }
        check.holds("examples were found: " + calls, calls >= 10);
        for (Method m : TwoScales.class.getDeclaredMethods()) {
            if (Modifier.isPublic(m.getModifiers())) {
                check.holds("it names " + m.getName(), page.contains("`" + m.getName() + "("));
            }
        }
        check.holds("it says how to run the tests", page.contains("    .ci/run\n"));
        for (String test : testNames()) {
            check.holds("it names " + test, page.contains("`" + test + "`"));
        }
        check.end();
    }

    /** How many calls of an example had an answer beside them. */
    private static int follow(Check check, String[] lines) throws ReflectiveOperationException {
        TwoScales x = new TwoScales();
        int calls = 0;
        for (String line : lines) {
            Matcher text = TEXT.matcher(line);
            if (text.matches()) {
                Check.type(x, text.group(1));
            }
            Matcher call = CALL.matcher(line);
            if (call.matches()) {
                calls++;
                check.due(line, answer(x, call.group(1), call.group(2)), Long.parseLong(call.group(3)));
            }
        }
        return calls;
    }

    private static long answer(TwoScales x, String name, String numbers) throws ReflectiveOperationException {
        String[] told = numbers.isBlank() ? new String[0] : numbers.split(",");
        Class<?>[] takes = new Class<?>[told.length];
        Object[] given = new Object[told.length];
        for (int i = 0; i < told.length; i++) {
            takes[i] = int.class;
            given[i] = Integer.valueOf(told[i].trim());
        }
        return ((Number) TwoScales.class.getMethod(name, takes).invoke(x, given)).longValue();
    }

    private static String[] testNames() throws IOException {
        try (var files = Files.list(Path.of("src/test/java"))) {
            return files.map(file -> file.getFileName().toString())
                    .filter(name -> name.endsWith("Test.java"))
                    .map(name -> name.substring(0, name.length() - ".java".length()))
                    .toArray(String[]::new);
        }
    }
}
