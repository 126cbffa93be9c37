import java.io.IOException;
import java.lang.reflect.Method;
import java.lang.reflect.Modifier;
import java.nio.file.Files;
import java.nio.file.Path;
import java.util.regex.Matcher;
import java.util.regex.Pattern;

/** What README.md says: the answers of its examples, and that it names every call and every test. */
public final class ReadmeTest {
    private static final Due D = new Due();
    private static final Pattern MADE = Pattern.compile("TreeSteps x = new TreeSteps\\((\\d+)\\);");
    private static final Pattern CALL = Pattern.compile("x\\.(\\w+)\\(([-0-9, ]*)\\); +// (-?\\d+)(:.*)?");

    private Run x = null;
    private int calls = 0;

    public static void main(String[] args) throws IOException {
        String whole = Files.readString(Path.of("README.md"));
        ReadmeTest examples = new ReadmeTest();
        Matcher block = Pattern.compile("(?s)```java\n(.*?)```").matcher(whole);
        while (block.find()) {
            for (String line : block.group(1).split("\n")) {
                examples.line(line);
            }
        }
        holds("README.md has examples", examples.calls > 30);
        names(whole);
        D.end();
    }

    private static void holds(String what, boolean it) {
        D.due(what, it ? 1 : 0, 1);
    }

    private void line(String line) {
        Matcher made = MADE.matcher(line);
        Matcher call = CALL.matcher(line);
        if (made.matches()) {
            x = new Run(D, Integer.parseInt(made.group(1)));
        } else if (x != null && call.matches()) {
            calls++;
            x.due(Long.parseLong(call.group(3)), call.group(1), numbers(call.group(2)));
        } else {
            holds("README.md: a line with its answer: " + line, false);
        }
    }

    private static long[] numbers(String text) {
        String[] parts = text.isEmpty() ? new String[0] : text.split(", ");
        long[] numbers = new long[parts.length];
        for (int i = 0; i < parts.length; i++) {
            numbers[i] = Long.parseLong(parts[i]);
        }
        return numbers;
    }

    private static void names(String whole) throws IOException {
        for (Method m : TreeSteps.class.getDeclaredMethods()) {
            if (Modifier.isPublic(m.getModifiers())) {
                holds("README.md names " + m.getName(), whole.contains("`" + m.getName() + "`"));
            }
        }
        try (var files = Files.list(Path.of("src/test/java"))) {
            for (Path file : files.toList()) {
                String name = file.getFileName().toString().replace(".java", "");
                holds("README.md names " + name, whole.contains("`" + name + "`"));
            }
        }
    }
}
