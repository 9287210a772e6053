/** Promises 24 and 25: luck, mean. */
public final class LuckTest {
    private final Due due = new Due("LuckTest");

    private LuckTest() {
    }

    public static void main(String[] args) {
        LuckTest test = new LuckTest();
        test.luck();
        test.mean();
        test.wrongInputs();
        test.due.close();
    }

    private void fraction(String call, long upper, long lower, long wantUpper, long wantLower) {
        due.is(call + ", 0)", upper, wantUpper);
        due.is(call + ", 1)", lower, wantLower);
    }

    private void luck(WheelCount x, int v, int w, int d, int n, long upper, long lower) {
        fraction("luck(" + v + ", " + w + ", " + d + ", " + n,
            x.luck(v, w, d, n, 0), x.luck(v, w, d, n, 1), upper, lower);
    }

    private void luck() {
        WheelCount x = Due.told("plain 10 0;plain 3 1;count 5;");
        String before = Due.state(x);
        luck(x, 5, 0, 1, 2, 1, 2);
        luck(x, 3, 0, 0, 1, 3, 10);
        luck(x, 3, 0, 1, 1, 7, 10);
        luck(x, 0, 0, 2, 2, 1, 1);
        luck(x, 0, 0, 1, 2, 0, 1);
        luck(x, 10, 0, 0, 8, 1, 1);
        luck(x, 10, 0, 8, 8, 0, 1);
        luck(x, 0, 0, 8, 8, 1, 1);
        luck(x, 7, 0, 0, 0, 1, 1);
        luck(x, 9, 0, 8, 8, 1, 100000000);
        luck(x, 1, 0, 8, 8, 43046721, 100000000);
        luck(x, 4, 1, 1, 8, 1, 1);
        luck(x, 4, 1, 2, 8, 0, 1);
        luck(x, 4, 0, 11, 8, 0, 1);
        luck(x, 4, 1, 3, 8, 0, 1);
        WheelCount near = Due.told("plain 2 0;plain 2 0;");
        luck(near, 5, 0, 0, 2, 1, 2);
        luck(near, 5, 1, 1, 3, 1, 2);
        luck(near, 2, 1, 1, 2, 16, 25);
        due.holds("asking changes nothing", before.equals(Due.state(x)));
    }

    private void mean(WheelCount x, int v, int n, long upper, long lower) {
        fraction("mean(" + v + ", " + n, x.mean(v, n, 0), x.mean(v, n, 1), upper, lower);
    }

    private void mean() {
        WheelCount x = Due.told("plain 10 0;plain 3 1;count 5;");
        mean(x, 5, 2, 11, 1);
        mean(x, 3, 1, 107, 10);
        mean(x, 0, 8, 18, 1);
        mean(x, 10, 8, 10, 1);
        mean(x, 4, 0, 10, 1);
        mean(x, 1, 8, 86, 5);
        WheelCount all = Due.told("plain 12 11;plain 12 11;plain 12 11;plain 12 11;plain 12 11;");
        mean(all, 10, 8, 248831, 1);
        mean(all, 9, 1, 2239479, 10);
        mean(new WheelCount(), 3, 8, 0, 1);
        WheelCount worn = Due.told("plain 2 1 1;plain 2 0;");
        mean(worn, 5, 1, 1, 2);
    }

    private void wrongInputs() {
        WheelCount x = Due.told("plain 10 0;");
        int[][] bad = {{-1, 0, 0, 0, 0}, {11, 0, 0, 0, 0}, {0, -1, 0, 0, 0}, {0, 1, 0, 0, 0}, {0, 0, -1, 0, 0},
            {0, 0, 12, 0, 0}, {0, 0, 0, -1, 0}, {0, 0, 0, 9, 0}, {0, 0, 0, 0, -1}, {0, 0, 0, 0, 2}};
        for (int[] v : bad) {
            due.is("luck " + java.util.Arrays.toString(v), x.luck(v[0], v[1], v[2], v[3], v[4]), WheelCount.BAD);
        }
        int[][] worse = {{-1, 0, 0}, {11, 0, 0}, {0, -1, 0}, {0, 9, 0}, {0, 0, -1}, {0, 0, 2}};
        for (int[] v : worse) {
            due.is("mean " + java.util.Arrays.toString(v), x.mean(v[0], v[1], v[2]), WheelCount.BAD);
        }
        due.is("luck without WHEELS", new WheelCount().luck(0, 0, 0, 0, 0), WheelCount.BAD);
    }
}
