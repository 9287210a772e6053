import java.nio.file.Files;
import java.nio.file.Path;
import java.util.HashMap;
import java.util.List;
import java.util.Map;
import java.util.Set;
import java.util.TreeSet;
import java.util.regex.Matcher;
import java.util.regex.Pattern;

/** Rules of LANGUAGE.md that can be told from the source's lines; run from the project's root. */
public final class SourceTest {
    private static final List<String> RULED_OUT = List.of(
        "throw", "throws", "try", "catch", "finally", "synchronized", "assert", "import", "package", "protected",
        "volatile", "transient", "native", "double", "float", "Object", "var", "System", "hashCode", "toString");
    /** Of rule 4's library: what the class may name of it; a constant of it is no function. */
    private static final Pattern LIBRARY = Pattern.compile(
        "\\b(Integer|Long|Math|Short|Byte|Character|Boolean|String|Arrays|List)\\.(\\w+\\(?)");
    private static final Set<String> FUNCTIONS = Set.of("compare(", "max(", "min(", "abs(", "bitCount(", "floorDiv(",
        "floorMod(", "copyOf(", "copyOfRange(", "fill(");
    private static final Pattern HEAD = Pattern.compile("( +)(public|private) [^=;]*?(\\w+)\\(([^)]*)\\) \\{");
    private static final int MOST_DEEP = 8;
    private static final int MOST_LINES = 60;
    private static final int MOST_PARAMETERS = 7;
    private static final int MOST_FIELDS = 20;

    private SourceTest() {
    }

    public static void main(String[] args) throws Exception {
        Due due = new Due("SourceTest");
        List<String> lines = Files.readAllLines(Path.of("src/main/java/WheelCount.java"));
        for (String line : lines) {
            oneLine(due, line.replaceAll("\"[^\"]*\"|//.*|^ */?\\*.*", ""));
            due.holds("signs 32 to 126: " + line, line.matches("[ -~]*"));
        }
        methodsAreShort(due, lines);
        callsAreNotDeep(due, lines);
        fieldsAreFew(due);
        due.close();
    }

    private static void oneLine(Due due, String code) {
        for (String word : RULED_OUT) {
            due.holds(word + " in: " + code, !Pattern.compile("\\b" + word + "\\b").matcher(code).find());
        }
        due.holds("a lambda or a method reference in: " + code, !code.contains("->") && !code.contains("::"));
        // What a call would make again and again fills the room: rows are made with the object alone.
        due.holds("made outside a field: " + code,
            !code.matches(".*\\bnew\\b.*") || code.matches(" +private final .*"));
        // A constructor hands out nothing of the object that it makes, so none of its parts is given another.
        due.holds("handed out in: " + code, !code.matches(".*\\bnew \\w+\\([^)].*"));
        Matcher named = LIBRARY.matcher(code);
        while (named.find()) {
            due.holds(named.group() + " in: " + code, FUNCTIONS.contains(named.group(2)));
        }
    }

    private static void methodsAreShort(Due due, List<String> lines) {
        for (int i = 0; i < lines.size(); i++) {
            Matcher m = HEAD.matcher(lines.get(i));
            if (!m.matches()) {
                continue;
            }
            int length = lines.subList(i, lines.size()).indexOf(m.group(1) + "}");
            due.holds("a long method: " + lines.get(i), length >= 0 && length <= MOST_LINES);
            due.holds("parameters of: " + lines.get(i), m.group(4).split(",").length <= MOST_PARAMETERS);
        }
    }

    /** Methods of one name are taken as one: by that a depth comes out greater, never less. */
    private static void callsAreNotDeep(Due due, List<String> lines) {
        Map<String, Set<String>> calls = new HashMap<>();
        Set<String> open = new TreeSet<>();
        for (String line : lines) {
            Matcher m = HEAD.matcher(line);
            if (m.matches()) {
                open = calls.computeIfAbsent(m.group(3), name -> new TreeSet<>());
                continue;
            }
            Matcher called = Pattern.compile("(\\w+)\\(").matcher(line);
            while (called.find()) {
                open.add(called.group(1));
            }
        }
        due.holds("methods are found", calls.size() > 38);
        for (String name : calls.keySet()) {
            due.holds("calls of " + name + " go deep or round", depth(calls, name, 1) <= MOST_DEEP);
        }
    }

    private static int depth(Map<String, Set<String>> calls, String name, int level) {
        int deepest = level;
        for (String called : calls.getOrDefault(name, Set.of())) {
            if (calls.containsKey(called) && deepest <= MOST_DEEP) {
                deepest = Math.max(deepest, depth(calls, called, level + 1));
            }
        }
        return deepest;
    }

    private static void fieldsAreFew(Due due) {
        due.holds("twelve classes", WheelCount.class.getDeclaredClasses().length <= 12);
        List<Class<?>> classes = new java.util.ArrayList<>(List.of(WheelCount.class.getDeclaredClasses()));
        classes.add(WheelCount.class);
        for (Class<?> c : classes) {
            long fields = List.of(c.getDeclaredFields()).stream()
                .filter(f -> !java.lang.reflect.Modifier.isStatic(f.getModifiers())).count();
            due.holds("fields of " + c, fields <= MOST_FIELDS);
        }
    }
}
