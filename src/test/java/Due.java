/** Compares answers with those that are due; prints every one that is not. */
final class Due {
    private final String name;
    private int asked;
    private int wrong;

    Due(String name) {
        this.name = name;
    }

    void is(String call, long got, long want) {
        asked++;
        if (got != want) {
            wrong++;
            System.out.println(name + ": " + call + " answered " + got + ", due is " + want);
        }
    }

    void holds(String what, boolean so) {
        is(what, so ? 1 : 0, 1);
    }

    void close() {
        System.out.println(name + ": " + (asked - wrong) + " passed, " + wrong + " failed");
        if (wrong != 0) {
            System.exit(1);
        }
    }

    static void write(WheelCount x, String text) {
        for (int i = 0; i < text.length(); i++) {
            x.feed(text.charAt(i));
        }
    }

    /** A new object that has been told a text. */
    static WheelCount told(String text) {
        WheelCount x = new WheelCount();
        write(x, text);
        if (x.text() < 0) {
            throw new IllegalStateException("not taken: " + text);
        }
        return x;
    }

    /** WHEELS and COUNT, in one line. */
    static String row(WheelCount x) {
        StringBuilder s = new StringBuilder();
        for (int what = 0; what <= 5; what++) {
            s.append(x.rule(what)).append(' ');
        }
        for (int w = 0; w < x.rule(0); w++) {
            for (int what = 0; what <= 4; what++) {
                s.append(x.wheel(w, what)).append(' ');
            }
        }
        return s.toString();
    }

    /** All that can be asked about the state but the fault of the text, in one line. */
    static String state(WheelCount x) {
        StringBuilder s = new StringBuilder(row(x));
        for (int what = 0; what <= 5; what++) {
            s.append(x.count(what)).append(' ');
        }
        for (int w = 0; w < x.rule(0); w++) {
            s.append(x.kinds(w)).append(' ').append(x.broken(w)).append(' ');
        }
        return s.append(x.torn()).toString();
    }
}
