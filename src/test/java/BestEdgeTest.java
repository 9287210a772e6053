/** Boundaries of promises 19 to 23: mend, swap, kind, begin, file. */
public final class BestEdgeTest {
    private static final String FIVE_WHOLE = "plain 2 1;plain 3 2;plain 4 3;plain 5 4;plain 6 5;";

    private final Due due = new Due("BestEdgeTest");
    private final Edge rich = new Edge(due, Edge::rich);
    private final Edge full = new Edge(due, Edge::full);

    private BestEdgeTest() {
    }

    public static void main(String[] args) {
        BestEdgeTest test = new BestEdgeTest();
        test.mendBad();
        test.mendBehindNoneAndMost();
        test.mendLessThanAsItIs();
        test.mendTheFirstOfSeveral();
        test.mendNoneBroken();
        test.mendOfFive();
        test.swapBad();
        test.swapBehindNoneAndMost();
        test.swapLessThanAsItIs();
        test.swapTheLeastOfSeveral();
        test.swapFewWheels();
        test.swapAllOfThem();
        test.swapOfFive();
        test.kindBad();
        test.kindTheFirstOfSeveral();
        test.kindAsItIs();
        test.beginBad();
        test.beginTheLeastOfSeveral();
        test.beginWithADigitThatItHas();
        test.beginBehindNoneAndMost();
        test.fileBad();
        test.fileTheLeastOfSeveral();
        test.fileALastTooth();
        test.fileBehindNoneAndMost();
        test.fileInPlaceOfWhatIs();
        test.due.close();
    }

    /** Both answers of a question: which, and how much. */
    private void answers(String name, int which, int much, int wantWhich, int wantMuch) {
        due.is(name + ", what 0", which, wantWhich);
        due.is(name + ", what 1", much, wantMuch);
    }

    private void mends(String text, int n, int which, int much) {
        WheelCount x = Due.told(text);
        answers("mend(" + n + ") of '" + text + "'", x.mend(n, 0), x.mend(n, 1), which, much);
    }

    private void swaps(String text, int n, int which, int much) {
        WheelCount x = Due.told(text);
        answers("swap(" + n + ") of '" + text + "'", x.swap(n, 0), x.swap(n, 1), which, much);
    }

    private void kinds(String text, int w, int n, int which, int much) {
        WheelCount x = Due.told(text);
        answers("kind(" + w + ", " + n + ") of '" + text + "'", x.kind(w, n, 0), x.kind(w, n, 1), which, much);
    }

    private void begins(String text, int w, int n, int which, int much) {
        WheelCount x = Due.told(text);
        answers("begin(" + w + ", " + n + ") of '" + text + "'", x.begin(w, n, 0), x.begin(w, n, 1), which, much);
    }

    private void files(String text, int w, int n, int which, int much) {
        WheelCount x = Due.told(text);
        answers("file(" + w + ", " + n + ") of '" + text + "'", x.file(w, n, 0), x.file(w, n, 1), which, much);
    }

    private void mendBad() {
        rich.bounds("mend(n, 0)", 0, 200, (x, v) -> x.mend(v, 0));
        rich.bounds("mend(n, 1)", 0, 200, (x, v) -> x.mend(v, 1));
        rich.bounds("mend(0, what)", 0, 1, (x, v) -> x.mend(0, v));
        full.bounds("mend(200, what)", 0, 1, (x, v) -> x.mend(200, v));
    }

    /** WHEEL 2 goes from its BROKEN tooth by the 200th PUSH. */
    private void mendBehindNoneAndMost() {
        String text = "plain 10 0;plain 10 0;plain 2 0 1;plain 2 0;";
        mends(text, 200, 2, 0);
        mends(text, 199, WheelCount.NONE, WheelCount.NONE);
        mends(text, 0, WheelCount.NONE, WheelCount.NONE);
        mends("plain 2 1 1;plain 2 0;count 1;", 1, 0, 0);
        mends("plain 2 1 1;plain 2 0;count 1;", 0, WheelCount.NONE, WheelCount.NONE);
        Edge one = new Edge(due, () -> Due.told(text));
        one.stays("mend(200, 0)", x -> x.mend(200, 0), 2);
    }

    /** Behind a PUSH it READS 0, mended 2; COUNT is 1 more by then. */
    private void mendLessThanAsItIs() {
        mends("plain 2 1 1;plain 3 0;count 0;", 1, WheelCount.NONE, WheelCount.NONE);
        mends("plain 2 1 1;plain 3 0;count 1;", 1, 0, 0);
        mends("plain 2 1 1;plain 3 0;count 2;", 1, 0, 1);
        mends("plain 2 1 1;plain 3 0;count 5;", 1, WheelCount.NONE, WheelCount.NONE);
    }

    /** Behind 3 it READS 0, by WHEEL 0 mended 3, by WHEEL 1 mended 9; COUNT is 3 more by then. */
    private void mendTheFirstOfSeveral() {
        String both = "hasty 3 0 1;plain 3 2 2;plain 3 0;count ";
        mends(both + "3;", 3, 0, 3);
        mends(both + "4;", 3, 1, 2);
        mends(both + "2;", 3, 0, 2);
    }

    private void mendNoneBroken() {
        mends("plain 3 2;back 3 0;count 9;", 7, WheelCount.NONE, WheelCount.NONE);
        mends("plain 3 2 0;back 3 0;count 4;", 1, WheelCount.NONE, WheelCount.NONE);
        mends(FIVE_WHOLE, 200, WheelCount.NONE, WheelCount.NONE);
    }

    private void mendOfFive() {
        mends("plain 2 1;plain 2 1;plain 2 1;plain 2 1 1;plain 2 0;count 15;", 1, 3, 0);
        mends("plain 2 1 1;plain 2 1;plain 2 1;plain 2 1;plain 2 0;count 15;", 1, 0, 0);
        mends("plain 2 1;plain 2 1;plain 2 1;plain 2 1;plain 2 1 1;count 15;", 1, WheelCount.NONE, WheelCount.NONE);
    }

    private void swapBad() {
        rich.bounds("swap(n, 0)", 0, 200, (x, v) -> x.swap(v, 0));
        rich.bounds("swap(n, 1)", 0, 200, (x, v) -> x.swap(v, 1));
        rich.bounds("swap(0, what)", 0, 1, (x, v) -> x.swap(0, v));
        full.bounds("swap(200, what)", 0, 1, (x, v) -> x.swap(200, v));
    }

    /** Behind 199 it READS 398, by 01 389, by 02 299; behind 200 it READS 400 by any. */
    private void swapBehindNoneAndMost() {
        String text = "hasty 10 0;plain 10 0;plain 10 0;";
        swaps(text, 200, WheelCount.NONE, WheelCount.NONE);
        swaps(text, 199, 2, 100);
        swaps(text, 0, WheelCount.NONE, WheelCount.NONE);
        swaps("plain 2 1;plain 2 0;count 2;", 0, 1, 0);
        swaps("plain 12 0;hasty 12 0;plain 12 0;", 200, 12, 144);
        new Edge(due, () -> Due.told(text)).stays("swap(199, 0)", x -> x.swap(199, 0), 2);
    }

    /** It READS 2, by 01 it READS 6. */
    private void swapLessThanAsItIs() {
        swaps("plain 3 2;plain 3 0;count 3;", 0, WheelCount.NONE, WheelCount.NONE);
        swaps("plain 3 2;plain 3 0;count 4;", 0, WheelCount.NONE, WheelCount.NONE);
        swaps("plain 3 2;plain 3 0;count 5;", 0, 1, 1);
        swaps("plain 3 2;plain 3 0;count 6;", 0, 1, 0);
    }

    /** It READS 1, by 01 2, by 02 4, by 12 1. */
    private void swapTheLeastOfSeveral() {
        swaps("plain 2 1;plain 2 0;plain 2 0;count 3;", 0, 1, 1);
        swaps("plain 2 1;plain 2 0;plain 2 0;count 4;", 0, 2, 0);
        swaps("plain 2 1;plain 2 0;plain 2 0;count 2;", 0, 1, 0);
        swaps("plain 2 0;plain 2 1;plain 2 1;count 5;", 0, 1, 0);
        swaps("plain 2 1;plain 2 1;plain 2 0;plain 2 0;count 10;", 0, 3, 0);
    }

    private void swapFewWheels() {
        due.is("none", new WheelCount().swap(0, 0), WheelCount.NONE);
        swaps("plain 9 4;count 7;", 5, WheelCount.NONE, WheelCount.NONE);
        swaps("plain 3 0;plain 3 2;count 2;", 0, 1, 0);
    }

    /** It is less by 01 for another DIGIT, for other TEETH, for a BROKEN tooth, for another KIND. */
    private void swapAllOfThem() {
        swaps("plain 2 1;plain 5 0;count 5;", 0, 1, 0);
        swaps("plain 5 1;plain 2 1;count 3;", 0, 1, 0);
        swaps("plain 4 3 3;plain 4 3;count 99;", 1, 1, 4);
        swaps("late 4 0;back 4 0;count 14;", 1, 1, 0);
    }

    private void swapOfFive() {
        swaps("plain 2 0;plain 2 0;plain 2 0;plain 2 1;plain 2 0;count 16;", 0, 34, 0);
        swaps("plain 2 1;plain 2 0;plain 2 0;plain 2 0;plain 2 0;count 16;", 0, 4, 0);
        swaps("plain 2 1;plain 2 1;plain 2 1;plain 2 1;plain 2 1;count 0;", 0, WheelCount.NONE, WheelCount.NONE);
    }

    private void kindBad() {
        rich.bounds("kind(w, 0, 0) of four", 0, 3, (x, v) -> x.kind(v, 0, 0));
        rich.bounds("kind(0, n, 0)", 0, 200, (x, v) -> x.kind(0, v, 0));
        rich.bounds("kind(0, 0, what)", 0, 1, (x, v) -> x.kind(0, 0, v));
        full.bounds("kind(w, 200, 1) of five", 0, 4, (x, v) -> x.kind(v, 200, 1));
    }

    /** Behind 199 one with 5 TEETH SHOWS 4 by plain, 3 by hasty, 1 by back, 1 by late. */
    private void kindTheFirstOfSeveral() {
        kinds("late 5 0;", 0, 199, 0, 0);
        kinds("late 5 0;count 4;", 0, 199, 1, 0);
        kinds("late 5 0;count 2;", 0, 199, 2, 0);
        kinds("late 5 0;count 1;", 0, 199, 2, 1);
        kinds("late 5 0;", 0, 200, 0, 0);
        kinds("late 5 3;count 1;", 0, 0, 0, 2);
        kinds("plain 4 0;plain 2 0;count 2;", 0, 1, 3, 0);
        kinds("plain 2 1;plain 2 1;plain 2 1;plain 2 1;hasty 2 0;count 15;", 4, 1, 0, 0);
    }

    private void kindAsItIs() {
        Edge one = new Edge(due, () -> Due.told("back 5 0;count 3;"));
        one.stays("it is best as it is", x -> x.kind(0, 1, 0), 2);
        one.stays("no ERROR", x -> x.kind(0, 1, 1), 0);
    }

    private void beginBad() {
        rich.bounds("begin(w, 0, 0) of four", 0, 3, (x, v) -> x.begin(v, 0, 0));
        rich.bounds("begin(0, n, 0)", 0, 200, (x, v) -> x.begin(0, v, 0));
        rich.bounds("begin(0, 0, what)", 0, 1, (x, v) -> x.begin(0, 0, v));
        full.bounds("begin(w, 200, 1) of five", 0, 4, (x, v) -> x.begin(v, 200, 1));
    }

    /** It READS 1, 3, 5, .. by WHEEL 1; COUNT 4 is between two of them. */
    private void beginTheLeastOfSeveral() {
        begins("plain 2 1;plain 5 4;count 4;", 1, 0, 1, 1);
        begins("plain 2 1;plain 5 4;count 5;", 1, 0, 2, 0);
        begins("hasty 4 0;plain 2 0;", 1, 0, 0, 0);
    }

    private void beginWithADigitThatItHas() {
        begins("plain 2 0;plain 12 0;count 11;", 0, 0, 1, 10);
        begins("plain 3 0;plain 3 0;count 3;", 0, 0, 2, 1);
        for (int teeth = 2; teeth <= 12; teeth++) {
            begins("plain " + teeth + " 0;count " + (teeth - 1) + ";", 0, 0, teeth - 1, 0);
            begins("plain " + teeth + " 1;count " + teeth + ";", 0, 0, 0, 0);
        }
    }

    private void beginBehindNoneAndMost() {
        begins("plain 12 0;count 11;", 0, 200, 11, 0);
        begins("plain 12 0;count 11;", 0, 199, 11, 0);
        begins("back 12 0;", 0, 200, 4, 0);
        begins("back 12 0;", 0, 199, 2, 0);
        begins("back 12 0;", 0, 0, 0, 0);
        Edge one = new Edge(due, () -> Due.told("back 12 7;"));
        one.stays("begin(0, 200, 0)", x -> x.begin(0, 200, 0), 4);
    }

    private void fileBad() {
        rich.bounds("file(w, 0, 0) of four", 0, 3, (x, v) -> x.file(v, 0, 0));
        rich.bounds("file(0, n, 0)", 0, 200, (x, v) -> x.file(0, v, 0));
        rich.bounds("file(0, 0, what)", 0, 1, (x, v) -> x.file(0, 0, v));
        full.bounds("file(w, 200, 1) of five", 0, 4, (x, v) -> x.file(v, 200, 1));
    }

    private void fileTheLeastOfSeveral() {
        files("plain 3 1;plain 3 2;", 0, 0, 0, 7);
        files("plain 3 1;plain 3 2;", 1, 200, 0, 0);
        files("hasty 4 0;plain 9 0;", 0, 2, 2, 0);
        files("hasty 4 1;plain 9 0;", 0, 2, 3, 1);
    }

    private void fileALastTooth() {
        for (int teeth = 2; teeth <= 12; teeth++) {
            files("plain " + teeth + " " + (teeth - 1) + ";plain 2 0;", 0, 1, teeth - 1, 0);
            files("back " + teeth + " 0;plain 2 0;", 0, 1, 0, teeth - 1);
        }
    }

    /** WHEEL 2 CARRIES by the 200th PUSH first. */
    private void fileBehindNoneAndMost() {
        String text = "plain 10 0;plain 10 0;plain 2 0;plain 2 0;";
        files(text, 2, 200, 1, 0);
        files(text, 2, 199, 0, 199);
        files(text, 2, 0, 0, 0);
        new Edge(due, () -> Due.told(text)).stays("file(2, 200, 0)", x -> x.file(2, 200, 0), 1);
    }

    private void fileInPlaceOfWhatIs() {
        files("back 3 0 0;back 3 1;", 0, 1, 1, 2);
        files("plain 3 2 1;plain 3 0;", 0, 1, 2, 0);
        files("plain 3 2 2;plain 3 0;", 0, 1, 2, 0);
    }
}
