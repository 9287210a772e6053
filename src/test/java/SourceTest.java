import java.nio.file.Files;
import java.nio.file.Path;
import java.util.List;
import java.util.regex.Matcher;
import java.util.regex.Pattern;

/** Rules of LANGUAGE.md that can be told from the source's lines; run from the project's root. */
public final class SourceTest {
    private static final List<String> RULED_OUT = List.of(
        "throw", "throws", "try", "catch", "finally", "synchronized", "assert", "import", "package", "protected",
        "volatile", "transient", "native", "double", "float", "Object", "var", "System", "hashCode", "toString");
    private static final int MOST_LINES = 60;
    private static final int MOST_PARAMETERS = 7;
    private static final int MOST_FIELDS = 20;

    private SourceTest() {
    }

    public static void main(String[] args) throws Exception {
        Due due = new Due("SourceTest");
        List<String> lines = Files.readAllLines(Path.of("src/main/java/WheelCount.java"));
        for (String line : lines) {
            oneLine(due, line.replaceAll("\"[^\"]*\"|//.*|^ */?\\*.*", ""));
            due.holds("signs 32 to 126: " + line, line.matches("[ -~]*"));
        }
        methodsAreShort(due, lines);
        fieldsAreFew(due);
        due.close();
    }

    private static void oneLine(Due due, String code) {
        for (String word : RULED_OUT) {
            due.holds(word + " in: " + code, !Pattern.compile("\\b" + word + "\\b").matcher(code).find());
        }
        due.holds("a lambda or a method reference in: " + code, !code.contains("->") && !code.contains("::"));
        // What a call would make again and again fills the room: rows are made with the object alone.
        due.holds("made outside a field: " + code,
            !code.matches(".*\\bnew\\b.*") || code.matches(" +private final .*"));
    }

    private static void methodsAreShort(Due due, List<String> lines) {
        Pattern head = Pattern.compile("( +)(public|private) [^=;]*\\(([^)]*)\\) \\{");
        for (int i = 0; i < lines.size(); i++) {
            Matcher m = head.matcher(lines.get(i));
            if (!m.matches()) {
                continue;
            }
            int length = lines.subList(i, lines.size()).indexOf(m.group(1) + "}");
            due.holds("a long method: " + lines.get(i), length >= 0 && length <= MOST_LINES);
            due.holds("parameters of: " + lines.get(i), m.group(3).split(",").length <= MOST_PARAMETERS);
        }
    }

    private static void fieldsAreFew(Due due) {
        due.holds("twelve classes", WheelCount.class.getDeclaredClasses().length <= 12);
        List<Class<?>> classes = new java.util.ArrayList<>(List.of(WheelCount.class.getDeclaredClasses()));
        classes.add(WheelCount.class);
        for (Class<?> c : classes) {
            long fields = List.of(c.getDeclaredFields()).stream()
                .filter(f -> !java.lang.reflect.Modifier.isStatic(f.getModifiers())).count();
            due.holds("fields of " + c, fields <= MOST_FIELDS);
        }
    }
}
