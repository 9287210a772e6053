/** Boundaries of promises 24 and 25: luck, mean; fractions in lowest terms. */
public final class LuckEdgeTest {
    private final Due due = new Due("LuckEdgeTest");
    private final Edge rich = new Edge(due, Edge::rich);
    private final Edge full = new Edge(due, Edge::full);

    private LuckEdgeTest() {
    }

    public static void main(String[] args) {
        LuckEdgeTest test = new LuckEdgeTest();
        test.luckBad();
        test.luckNeverAndAlwaysMissed();
        test.luckOfNoPushes();
        test.luckOfMostPushes();
        test.luckOfADigitThatItHasNot();
        test.luckZeroIsZeroByOne();
        test.luckLowestTerms();
        test.luckRound();
        test.meanBad();
        test.meanNeverAndAlwaysMissed();
        test.meanOfNoPushes();
        test.meanZeroIsZeroByOne();
        test.meanLowestTerms();
        test.meanOfTheMost();
        test.askingCountsNothing();
        test.due.close();
    }

    private void luck(WheelCount x, int v, int w, int d, int n, long upper, long lower) {
        String name = "luck(" + v + ", " + w + ", " + d + ", " + n;
        due.is(name + ", 0)", x.luck(v, w, d, n, 0), upper);
        due.is(name + ", 1)", x.luck(v, w, d, n, 1), lower);
    }

    private void mean(WheelCount x, int v, int n, long upper, long lower) {
        String name = "mean(" + v + ", " + n;
        due.is(name + ", 0)", x.mean(v, n, 0), upper);
        due.is(name + ", 1)", x.mean(v, n, 1), lower);
    }

    private void luckBad() {
        rich.bounds("luck(v, 0, 0, 3, 0)", 0, 10, (x, v) -> x.luck(v, 0, 0, 3, 0));
        rich.bounds("luck(3, w, 0, 3, 0) of four", 0, 3, (x, v) -> x.luck(3, v, 0, 3, 0));
        rich.bounds("luck(3, 0, d, 3, 0)", 0, 11, (x, v) -> x.luck(3, 0, v, 3, 0));
        rich.bounds("luck(3, 0, 0, n, 0)", 0, 8, (x, v) -> x.luck(3, 0, 0, v, 0));
        rich.bounds("luck(3, 0, 0, 3, what)", 0, 1, (x, v) -> x.luck(3, 0, 0, 3, v));
        full.bounds("luck(3, w, 0, 8, 1) of five", 0, 4, (x, v) -> x.luck(3, v, 0, 8, 1));
    }

    private void luckNeverAndAlwaysMissed() {
        WheelCount x = Due.told("plain 12 3;");
        luck(x, 0, 0, 11, 8, 1, 1);
        luck(x, 0, 0, 10, 8, 0, 1);
        luck(x, 0, 0, 3, 8, 0, 1);
        luck(x, 10, 0, 3, 8, 1, 1);
        luck(x, 10, 0, 4, 8, 0, 1);
        luck(x, 1, 0, 3, 1, 1, 10);
        luck(x, 1, 0, 4, 1, 9, 10);
        luck(x, 9, 0, 3, 1, 9, 10);
        luck(x, 9, 0, 4, 1, 1, 10);
    }

    private void luckOfNoPushes() {
        WheelCount x = Due.told("plain 12 3;");
        for (int v = 0; v <= 10; v++) {
            luck(x, v, 0, 3, 0, 1, 1);
            luck(x, v, 0, 4, 0, 0, 1);
        }
    }

    private void luckOfMostPushes() {
        WheelCount x = Due.told("plain 10 0;");
        luck(x, 9, 0, 8, 8, 1, 100000000);
        luck(x, 9, 0, 9, 8, 0, 1);
        luck(x, 9, 0, 7, 7, 1, 10000000);
        luck(x, 1, 0, 0, 8, 1, 100000000);
        luck(x, 5, 0, 4, 8, 35, 128);
    }

    private void luckOfADigitThatItHasNot() {
        WheelCount x = Due.told("plain 2 0;plain 12 11;");
        luck(x, 5, 0, 1, 1, 1, 2);
        luck(x, 5, 0, 2, 1, 0, 1);
        luck(x, 5, 0, 11, 1, 0, 1);
        luck(x, 5, 1, 11, 1, 1, 1);
    }

    private void luckZeroIsZeroByOne() {
        WheelCount x = Due.told("plain 10 0;plain 10 0;");
        luck(x, 5, 1, 1, 8, 0, 1);
        luck(x, 10, 0, 1, 8, 0, 1);
        luck(x, 3, 0, 9, 8, 0, 1);
    }

    private void luckLowestTerms() {
        WheelCount x = Due.told("plain 10 0;");
        luck(x, 8, 0, 8, 8, 1, 390625);
        luck(x, 5, 0, 8, 8, 1, 256);
        luck(x, 2, 0, 8, 8, 65536, 390625);
        luck(x, 1, 0, 8, 8, 43046721, 100000000);
        luck(x, 5, 0, 1, 2, 1, 2);
        luck(x, 4, 0, 1, 1, 3, 5);
    }

    private void luckRound() {
        WheelCount x = Due.told("plain 2 0;plain 2 1;");
        luck(x, 5, 0, 0, 8, 1, 2);
        luck(x, 0, 0, 0, 8, 1, 1);
        luck(x, 0, 1, 1, 8, 1, 1);
        luck(x, 0, 1, 0, 7, 1, 1);
        luck(x, 0, 1, 1, 7, 0, 1);
        luck(x, 0, 1, 0, 3, 1, 1);
        WheelCount worn = Due.told("plain 2 1 1;plain 2 0;");
        luck(worn, 5, 1, 1, 8, 0, 1);
    }

    private void meanBad() {
        rich.bounds("mean(v, 3, 0)", 0, 10, (x, v) -> x.mean(v, 3, 0));
        rich.bounds("mean(3, n, 0)", 0, 8, (x, v) -> x.mean(3, v, 0));
        rich.bounds("mean(3, 3, what)", 0, 1, (x, v) -> x.mean(3, 3, v));
        full.bounds("mean(3, n, 1) of five", 0, 8, (x, v) -> x.mean(3, v, 1));
    }

    private void meanNeverAndAlwaysMissed() {
        WheelCount x = Due.told("plain 10 1;");
        mean(x, 0, 8, 9, 1);
        mean(x, 10, 8, 1, 1);
        mean(x, 1, 1, 19, 10);
        mean(x, 9, 1, 11, 10);
        mean(x, 1, 8, 41, 5);
        mean(x, 9, 8, 9, 5);
    }

    private void meanOfNoPushes() {
        WheelCount x = Due.told("plain 10 7;plain 3 2;");
        for (int v = 0; v <= 10; v++) {
            mean(x, v, 0, 27, 1);
        }
    }

    private void meanZeroIsZeroByOne() {
        mean(Due.told("plain 10 0;"), 10, 8, 0, 1);
        mean(Due.told("plain 10 0;"), 3, 0, 0, 1);
        mean(new WheelCount(), 5, 8, 0, 1);
        mean(Due.told("hasty 2 0;"), 5, 8, 0, 1);
    }

    private void meanLowestTerms() {
        WheelCount x = Due.told("plain 10 0;");
        mean(x, 5, 8, 4, 1);
        mean(x, 5, 7, 7, 2);
        mean(x, 4, 1, 3, 5);
        mean(x, 3, 1, 7, 10);
    }

    /** 9 to the 8th times 248831 and, for it goes round to 0, 23046721: by 10 to the 8th, less 256 times. */
    private void meanOfTheMost() {
        WheelCount x = Due.told("plain 12 11;plain 12 11;plain 12 11;plain 12 11;plain 12 11;");
        mean(x, 10, 8, 248831, 1);
        mean(x, 0, 1, 0, 1);
        mean(x, 0, 8, 7, 1);
        mean(x, 9, 8, 41841334687L, 390625);
    }

    private void askingCountsNothing() {
        rich.stays("luck(5, 1, 11, 8, 1)", x -> x.luck(5, 1, 11, 8, 1), 1);
        rich.stays("mean(10, 8, 0)", x -> x.mean(10, 8, 0), 88);
        full.stays("mean(10, 8, 0)", x -> x.mean(10, 8, 0), 228153);
    }
}
