import java.io.File;
import java.lang.reflect.Method;
import java.lang.reflect.Modifier;
import java.nio.file.Files;
import java.nio.file.Path;
import java.util.Arrays;
import java.util.List;
import java.util.regex.Matcher;
import java.util.regex.Pattern;

/** README.md: its example answers as it says, and it names every call and every test; run from the root. */
public final class ReadmeTest {
    private static final Pattern TEXT = Pattern.compile("String text = \"(.*)\";");
    private static final Pattern CALL = Pattern.compile("x\\.(\\w+)\\(([-0-9, ]*)\\); *// (-?\\d+):.*");

    private ReadmeTest() {
    }

    public static void main(String[] args) throws Exception {
        Due due = new Due("ReadmeTest");
        List<String> lines = Files.readAllLines(Path.of("README.md"));
        exampleAnswers(due, lines);
        String page = String.join("\n", lines);
        for (Method m : WheelCount.class.getDeclaredMethods()) {
            due.holds(m + " is named", !Modifier.isPublic(m.getModifiers()) || page.contains("`" + m.getName() + "`"));
        }
        for (File test : new File("src/test/java").listFiles((folder, name) -> name.endsWith("Test.java"))) {
            due.holds(test + " is named", page.contains("| " + test.getName().replace(".java", "") + " |"));
        }
        due.close();
    }

    private static void exampleAnswers(Due due, List<String> lines) throws Exception {
        WheelCount x = new WheelCount();
        int calls = 0;
        for (String line : lines) {
            Matcher text = TEXT.matcher(line);
            Matcher call = CALL.matcher(line);
            if (text.matches()) {
                Due.write(x, text.group(1));
            } else if (call.matches()) {
                due.is(line, answer(x, call.group(1), call.group(2)), Long.parseLong(call.group(3)));
                calls++;
            } else {
                due.holds("a call without its answer: " + line, !line.matches("x\\..*"));
            }
        }
        due.holds("there is an example", calls > 0);
    }

    private static long answer(WheelCount x, String name, String values) throws Exception {
        Object[] boxed = values.isEmpty() ? new Object[0]
            : Arrays.stream(values.split(", ")).map(Integer::valueOf).toArray();
        Class<?>[] types = new Class<?>[boxed.length];
        Arrays.fill(types, int.class);
        return ((Number) WheelCount.class.getMethod(name, types).invoke(x, boxed)).longValue();
    }
}
