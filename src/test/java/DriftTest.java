/** Promise 31: drift. */
public final class DriftTest {
    private static final String WHEELS = "hasty 3 1;late 4 3 2;plain 5 4;count 9;";
    private static final int[] SEEDS = {0, 42, -3, Integer.MAX_VALUE, Integer.MIN_VALUE};
    /** Reckoned apart by numbers without bounds: which of three WHEELS is turned, one after another. */
    private static final int[][] TURNED = {
        {0, 0, 1, 1, 0, 1, 1, 1}, {1, 2, 2, 0, 2, 1, 0, 1}, {0, 0, 1, 0, 2, 1, 2, 0},
        {2, 2, 1, 0, 1, 2, 2, 2}, {0, 0, 1, 1, 0, 1, 1, 1}};

    private DriftTest() {
    }

    public static void main(String[] args) {
        Due due = new Due("DriftTest");
        for (int i = 0; i < SEEDS.length; i++) {
            turns(due, SEEDS[i], TURNED[i]);
        }
        wrongInputs(due);
        due.close();
    }

    private static void turns(Due due, int seed, int[] turned) {
        WheelCount x = Due.told(WHEELS);
        WheelCount byHand = Due.told(WHEELS);
        String before = Due.state(x);
        int carries = 0;
        for (int n = 1; n <= turned.length; n++) {
            int bits = byHand.rule(5) >> turned[n - 1];
            carries += Integer.numberOfTrailingZeros(~bits);
            int want = byHand.turn(turned[n - 1]);
            due.is("drift(" + seed + ", " + n + ", 0)", x.drift(seed, n, 0), want);
            due.is("drift(" + seed + ", " + n + ", 1)", x.drift(seed, n, 1), carries);
        }
        due.holds("asking changes nothing", before.equals(Due.state(x)));
    }

    private static void wrongInputs(Due due) {
        WheelCount x = Due.told("plain 7 0;");
        due.is("drift(1, 200, 0)", x.drift(1, 200, 0), 4);
        due.is("drift(1, 200, 1)", x.drift(1, 200, 1), 28);
        due.is("drift(1, 0, 0)", x.drift(1, 0, 0), WheelCount.BAD);
        due.is("drift(1, 201, 0)", x.drift(1, 201, 0), WheelCount.BAD);
        due.is("drift(1, 1, -1)", x.drift(1, 1, -1), WheelCount.BAD);
        due.is("drift(1, 1, 2)", x.drift(1, 1, 2), WheelCount.BAD);
        WheelCount none = new WheelCount();
        due.is("without WHEELS", none.drift(1, 1, 0), WheelCount.STATE);
        due.is("BAD is ahead of STATE", none.drift(1, 0, 0), WheelCount.BAD);
    }
}
