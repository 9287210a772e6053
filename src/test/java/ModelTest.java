import java.lang.reflect.Method;
import java.util.Arrays;
import java.util.Random;

/** Runs of calls by fixed seeds: the class answers as the model does, call by call. */
public final class ModelTest {
    private static final int RUNS = 1500;
    private static final int MOST_CALLS = 512;
    private static final String[] WORDS = {"plain", "hasty", "back", "late", "count"};
    private static final String[] ASKED = {
        "end", "text", "fault", "rule", "wheel", "alter", "alter", "alter", "add", "cut", "turn", "turn", "clear",
        "pushes", "pushes", "runs", "runs", "ahead", "when", "shows", "again", "mend", "swap", "kind", "begin", "file",
        "luck", "mean", "see", "see", "see", "forget", "kinds", "broken", "broken", "ask", "ask", "drift", "keep",
        "back", "sheet", "lay", "lay", "lay", "read", "read", "torn", "count", "feed"};

    private final Due due;
    private final Random random;
    private final WheelCount x = new WheelCount();
    private final Model model = new Model();
    private final StringBuilder trail = new StringBuilder();
    private int calls;
    private boolean alike = true;

    private ModelTest(Due due, long seed) {
        this.due = due;
        this.random = new Random(seed);
        trail.append("seed ").append(seed).append(": ");
    }

    public static void main(String[] args) throws Exception {
        Due due = new Due("ModelTest");
        for (int seed = 0; seed < RUNS; seed++) {
            new ModelTest(due, seed).run();
        }
        due.close();
    }

    private void run() throws Exception {
        write(random.nextInt(4) > 0 ? goodText() : spoilt(goodText()));
        while (alike && calls < MOST_CALLS) {
            String name = ASKED[random.nextInt(ASKED.length)];
            if (random.nextInt(60) == 0 && calls < MOST_CALLS - 170) {
                write(random.nextBoolean() ? goodText() : spoilt(goodText()));
            } else if (name.equals("see") && random.nextInt(4) > 0) {
                seeWhatIs();
            } else if (name.equals("sheet") && random.nextInt(3) == 0) {
                fillSheet();
            } else {
                call(name, values(name));
            }
        }
    }

    private void write(String text) throws Exception {
        for (int i = 0; i < text.length(); i++) {
            call("feed", text.charAt(i));
        }
        call("text");
        call("fault");
    }

    /** A true reading is seen, so that something is left to be told from it. */
    private void seeWhatIs() throws Exception {
        int n = random.nextInt(201);
        call("see", n, model.runs(n, 0));
    }

    private void fillSheet() throws Exception {
        int k = random.nextInt(4);
        int cells = random.nextInt(24);
        call("sheet", k, random.nextInt(3), cells);
        for (int i = 0; i < cells; i++) {
            int w = random.nextInt(Math.max(1, model.rule(0)));
            call("lay", k, i, i % 2 == 0 ? w : random.nextInt(Math.max(2, model.wheel(w, 1))));
        }
    }

    private String goodText() {
        StringBuilder s = new StringBuilder();
        int wheels = random.nextInt(6);
        int counted = random.nextInt(8);
        for (int i = 0; i <= wheels; i++) {
            if (i == counted) {
                s.append("count ").append(random.nextInt(100)).append(';');
            }
            if (i < wheels) {
                int teeth = random.nextInt(3) > 0 ? 2 + random.nextInt(4) : 2 + random.nextInt(11);
                s.append(WORDS[random.nextInt(4)]).append(blanks()).append(teeth).append(' ').append(blanks());
                s.append(random.nextInt(teeth));
                if (random.nextBoolean()) {
                    s.append(' ').append(random.nextInt(teeth));
                }
                s.append(blanks()).append(';').append(blanks());
            }
        }
        return s.toString();
    }

    private String blanks() {
        return random.nextInt(4) == 0 ? " " : "";
    }

    private String spoilt(String text) {
        StringBuilder s = new StringBuilder(text);
        int place = random.nextInt(s.length() + 1);
        switch (random.nextInt(4)) {
            case 0:
                s.setLength(place);
                break;
            case 1:
                s.insert(place, "0123456789;; !\nz".charAt(random.nextInt(16)));
                break;
            case 2:
                s.insert(place, WORDS[random.nextInt(5)]);
                break;
            default:
                s.append(s).setLength(Math.min(s.length(), 160));
                break;
        }
        return s.toString();
    }

    private void call(String name, int... values) throws Exception {
        if (!alike || calls >= MOST_CALLS) {
            return;
        }
        calls++;
        Class<?>[] types = new Class<?>[values.length];
        Arrays.fill(types, int.class);
        Object[] boxed = Arrays.stream(values).boxed().toArray();
        Method asked = WheelCount.class.getMethod(name, types);
        long got = ((Number) asked.invoke(x, boxed)).longValue();
        long want = ((Number) Model.class.getMethod(name, types).invoke(model, boxed)).longValue();
        trail.append(name).append(Arrays.toString(values)).append(' ');
        alike = got == want;
        due.is(alike ? name : trail.toString(), got, want);
    }

    /** Mostly fitting, now and then at an edge or beyond it. */
    private int upTo(int low, int high) {
        switch (random.nextInt(48)) {
            case 0:
                return low - 1;
            case 1:
                return high + 1;
            case 2:
                return random.nextInt();
            case 3:
                return low;
            case 4:
                return high;
            case 5:
                return Integer.MIN_VALUE;
            case 6:
                return Integer.MAX_VALUE;
            default:
                return low + random.nextInt(high - low + 1);
        }
    }

    private int aWheel() {
        return upTo(0, Math.max(0, model.rule(0) - 1));
    }

    private int[] values(String name) {
        switch (name) {
            case "text": case "fault": case "clear": case "again": case "torn":
                return new int[0];
            case "feed":
                return new int[] {upTo(0, 127)};
            case "end":
                return new int[] {upTo(0, model.count(2))};
            case "rule": case "count":
                return new int[] {upTo(0, 5)};
            case "wheel":
                return new int[] {aWheel(), upTo(0, 4)};
            case "alter":
                int what = random.nextInt(30) == 0 ? upTo(0, 3) : random.nextInt(4);
                return new int[] {aWheel(), what, upTo(0, random.nextBoolean() ? 3 : 12)};
            case "add":
                return new int[] {upTo(0, 3), upTo(2, 12)};
            case "cut":
                return new int[] {random.nextInt(3) == 0 ? upTo(0, model.rule(0)) : model.rule(0)};
            case "turn": case "kinds": case "broken":
                return new int[] {aWheel()};
            case "pushes":
                return new int[] {upTo(0, random.nextBoolean() ? 9 : 1000)};
            case "runs":
                return new int[] {upTo(0, 1000), upTo(0, 4)};
            case "ahead":
                return new int[] {aWheel(), upTo(0, 1000)};
            case "when":
                return new int[] {random.nextBoolean() ? upTo(0, 248831) : model.runs(random.nextInt(1001), 0)};
            case "shows":
                return new int[] {aWheel(), upTo(0, 11)};
            default:
                return moreValues(name);
        }
    }

    private int[] moreValues(String name) {
        switch (name) {
            case "mend": case "swap":
                return new int[] {upTo(0, 200), upTo(0, 1)};
            case "kind": case "begin": case "file":
                return new int[] {aWheel(), upTo(0, 200), upTo(0, 1)};
            case "luck":
                return new int[] {upTo(0, 10), aWheel(), upTo(0, 11), upTo(0, 8), upTo(0, 1)};
            case "mean":
                return new int[] {upTo(0, 10), upTo(0, 8), upTo(0, 1)};
            case "see":
                return new int[] {upTo(0, 200), upTo(0, 248831)};
            case "forget":
                return new int[] {upTo(0, model.count(0))};
            case "ask":
                return new int[] {aWheel(), upTo(0, 1)};
            case "drift":
                return new int[] {random.nextInt(), upTo(1, 200), upTo(0, 1)};
            case "keep": case "back":
                return new int[] {upTo(0, 1)};
            case "sheet":
                return new int[] {upTo(0, 3), upTo(0, 2), upTo(0, 40)};
            case "lay":
                return new int[] {upTo(0, 3), upTo(0, 39), random.nextBoolean() ? random.nextInt(5) : random.nextInt()};
            default:
                return new int[] {upTo(0, 3), upTo(0, 2), upTo(0, random.nextBoolean() ? 0 : 30), upTo(0, 20)};
        }
    }
}
