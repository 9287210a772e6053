import java.math.BigInteger;

/** Boundaries of promise 31: drift. */
public final class DriftEdgeTest {
    private static final String FIVE = "plain 12 0;plain 12 0;plain 12 0;plain 12 0;plain 12 0;";
    private static final BigInteger ROUND = BigInteger.ONE.shiftLeft(32);

    private final Due due = new Due("DriftEdgeTest");
    private final Edge rich = new Edge(due, Edge::rich);

    private DriftEdgeTest() {
    }

    public static void main(String[] args) {
        DriftEdgeTest test = new DriftEdgeTest();
        test.driftBad();
        test.driftWithoutWheels();
        test.onceAndMost();
        test.anySeed();
        test.bitsThatAreGot();
        test.gotModuloWheels();
        test.byItself();
        test.due.close();
    }

    private void driftBad() {
        rich.bounds("drift(7, n, 0)", 1, 200, (x, v) -> x.drift(7, v, 0));
        rich.bounds("drift(7, n, 1)", 1, 200, (x, v) -> x.drift(7, v, 1));
        rich.bounds("drift(7, 1, what)", 0, 1, (x, v) -> x.drift(7, 1, v));
    }

    private void driftWithoutWheels() {
        Edge none = new Edge(due, WheelCount::new);
        none.stays("STATE", x -> x.drift(7, 1, 0), WheelCount.STATE);
        none.stays("STATE, what 1", x -> x.drift(7, 200, 1), WheelCount.STATE);
        none.stays("BAD, STATE by n", x -> x.drift(7, 201, 0), WheelCount.BAD);
        none.stays("BAD, STATE by what", x -> x.drift(7, 1, 2), WheelCount.BAD);
        WheelCount x = Due.told("plain 2 0;");
        due.is("one WHEEL", x.drift(7, 1, 0), 1);
        x.cut(0);
        due.is("it is cut", x.drift(7, 1, 0), WheelCount.STATE);
    }

    private void onceAndMost() {
        WheelCount x = Due.told("plain 7 0;");
        due.is("once", x.drift(7, 1, 0), 1);
        due.is("once: no CARRY", x.drift(7, 1, 1), 0);
        due.is("7 times", x.drift(7, 7, 0), 0);
        due.is("7 times: a CARRY to none", x.drift(7, 7, 1), 1);
        due.is("199 times", x.drift(7, 199, 0), 3);
        due.is("200 times", x.drift(7, 200, 0), 4);
        due.is("200 times: 28", x.drift(7, 200, 1), 28);
        due.is("a BROKEN tooth", Due.told("plain 7 0 6;").drift(7, 200, 1), 0);
    }

    private void anySeed() {
        int[] seeds = {0, 1, -1, Integer.MIN_VALUE, Integer.MAX_VALUE};
        for (int seed : seeds) {
            due.is("seed " + seed, Due.told("plain 12 0;").drift(seed, 1, 0), 1);
            due.holds("seed " + seed + " of five", Due.told(FIVE).drift(seed, 200, 0) > 0);
        }
    }

    /** The seed that becomes this one: seed times 1103515245 and 12345, backwards. */
    private static int seedThatBecomes(long next) {
        BigInteger inverse = BigInteger.valueOf(1103515245).modInverse(ROUND);
        return BigInteger.valueOf(next - 12345).multiply(inverse).mod(ROUND).intValue();
    }

    private void gets(String name, long next, int got) {
        int wheel = got % 5;
        int want = (int) Math.pow(12, wheel);
        due.is(name, Due.told(FIVE).drift(seedThatBecomes(next), 1, 0), want);
    }

    private void bitsThatAreGot() {
        gets("no bit", 0, 0);
        gets("bit 15 is not got", 0x8000L, 0);
        gets("bits 0 to 15 are not got", 0xffffL, 0);
        gets("bit 16 is got", 0x10000L, 1);
        gets("bit 30 is got", 0x40000000L, 0x4000);
        gets("bit 31 is not got", 0x80000000L, 0);
        gets("bits 16 to 30", 0x7fff0000L, 0x7fff);
        gets("all bits", 0xffffffffL, 0x7fff);
        gets("bits 31 and 16", 0x80010000L, 1);
    }

    private void gotModuloWheels() {
        for (int got = 0; got <= 10; got++) {
            gets("got " + got, (long) got << 16, got);
            int seed = seedThatBecomes((long) got << 16);
            WheelCount three = Due.told("plain 12 0;plain 12 0;plain 12 0;");
            due.is("got " + got + " of three", three.drift(seed, 1, 0), (int) Math.pow(12, got % 3));
        }
        int last = seedThatBecomes(4L << 16);
        WheelCount x = Due.told("plain 2 0;plain 2 0;plain 2 0;plain 2 0;plain 2 1;");
        due.is("the last one CARRIES to none", x.drift(last, 1, 0), 0);
        due.is("but it CARRIES", x.drift(last, 1, 1), 1);
        int first = seedThatBecomes(0);
        WheelCount on = Due.told("plain 2 1;plain 2 1;plain 2 1;plain 2 1;plain 2 1;");
        due.is("the first one goes on and on", on.drift(first, 1, 1), 5);
    }

    private void byItself() {
        rich.stays("drift(7, 200, 0)", x -> Math.min(0, x.drift(7, 200, 0)), 0);
        new Edge(due, Edge::full).stays("drift(-7, 200, 1)", x -> Math.min(0, x.drift(-7, 200, 1)), 0);
        WheelCount x = Due.told(FIVE);
        int once = x.drift(9, 50, 0);
        due.is("the same for the second time", x.drift(9, 50, 0), once);
    }
}
