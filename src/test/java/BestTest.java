/** Promises 19 to 23: mend, swap, kind, begin, file. */
public final class BestTest {
    private final Due due = new Due("BestTest");

    private BestTest() {
    }

    public static void main(String[] args) {
        BestTest test = new BestTest();
        test.mends();
        test.swaps();
        test.kinds();
        test.begins();
        test.files();
        test.wrongInputs();
        test.changesNothing();
        test.due.close();
    }

    private void mends() {
        WheelCount x = Due.told("plain 2 0 1;plain 3 0;");
        due.is("mend(2, 0)", x.mend(2, 0), 0);
        due.is("mend(2, 1)", x.mend(2, 1), 0);
        due.is("it is no less behind 1", x.mend(1, 0), WheelCount.NONE);
        due.is("it is no less behind 1", x.mend(1, 1), WheelCount.NONE);
        due.is("it is no less behind 0", x.mend(0, 0), WheelCount.NONE);
        WheelCount both = Due.told("plain 2 0 1;plain 2 0 1;plain 2 0;");
        due.is("one is not enough", both.mend(4, 0), WheelCount.NONE);
        due.is("the first one is enough", both.mend(2, 0), 0);
        WheelCount second = Due.told("plain 2 0;plain 2 0 1;plain 2 0;");
        due.is("the second one", second.mend(4, 0), 1);
        due.is("none is left", second.mend(4, 1), 0);
        WheelCount part = Due.told("plain 2 0 1;plain 3 0;count 2;");
        due.is("ERROR is less, not 0", part.mend(2, 0), 0);
        due.is("how much", part.mend(2, 1), 2);
        // By COUNT 6 it READS 0; with WHEEL 0 mended 3, with WHEEL 1 mended 9.
        WheelCount several = Due.told("hasty 3 0 1;plain 3 2 2;plain 3 0;count 3;");
        due.is("of several the first", several.mend(3, 0), 0);
        due.is("of several: ERROR", several.mend(3, 1), 3);
        WheelCount whole = Due.told("plain 2 0;plain 3 0;");
        due.is("no BROKEN tooth", whole.mend(9, 0), WheelCount.NONE);
        due.is("without WHEELS", new WheelCount().mend(200, 0), WheelCount.NONE);
    }

    private void swaps() {
        WheelCount x = Due.told("plain 3 1;plain 4 0;count 3;");
        due.is("swap(0, 0)", x.swap(0, 0), 1);
        due.is("swap(0, 1)", x.swap(0, 1), 1);
        WheelCount good = Due.told("plain 3 0;plain 4 0;");
        due.is("it is no less", good.swap(20, 0), WheelCount.NONE);
        due.is("it is no less", good.swap(20, 1), WheelCount.NONE);
        WheelCount last = Due.told("plain 2 0;plain 2 1;plain 2 0;count 4;");
        due.is("1 and 2", last.swap(0, 0), 12);
        due.is("ERROR then", last.swap(0, 1), 0);
        WheelCount alike = Due.told("plain 2 0;back 2 0;plain 2 0;plain 2 0;count 1;");
        due.is("behind 0 all read 0", alike.swap(0, 0), WheelCount.NONE);
        WheelCount best = Due.told("plain 2 1;plain 2 1;plain 2 0;plain 2 0;count 9;");
        due.is("of 02, 03, 12, 13 the best", best.swap(0, 0), 13);
        WheelCount several = Due.told("plain 2 1;plain 2 0;plain 2 0;count 3;");
        due.is("of several the least", several.swap(0, 0), 1);
        due.is("of several: ERROR", several.swap(0, 1), 1);
        // By COUNT 13 it READS 3, for a late one does not carry from 0; changed it READS 15.
        WheelCount byKind = Due.told("late 4 0;back 4 0;count 12;");
        due.is("KINDS change places", byKind.swap(1, 0), 1);
        due.is("KINDS change places", byKind.swap(1, 1), 2);
        WheelCount byTooth = Due.told("plain 4 3 3;plain 4 3;count 3;");
        due.is("BROKEN teeth change places", byTooth.swap(1, 0), 1);
        due.is("BROKEN teeth change places", byTooth.swap(1, 1), 4);
        WheelCount five = Due.told("plain 2 0;plain 2 0;plain 2 0;plain 2 1;plain 2 0;count 16;");
        due.is("the last two of five", five.swap(0, 0), 34);
        due.is("a single one", Due.told("plain 3 1;").swap(3, 0), WheelCount.NONE);
        due.is("without WHEELS", new WheelCount().swap(200, 0), WheelCount.NONE);
    }

    private void kinds() {
        int[] counts = {0, 3, 4};
        int[] best = {0, 1, 2};
        for (int i = 0; i < 3; i++) {
            WheelCount x = Due.told("late 5 0;count " + counts[i] + ";");
            due.is("kind(0, 3, 0)", x.kind(0, 3, 0), best[i]);
            due.is("kind(0, 3, 1)", x.kind(0, 3, 1), 0);
        }
        WheelCount late = Due.told("plain 4 0;plain 2 0;count 2;");
        due.is("late is best", late.kind(0, 1, 0), 3);
        due.is("late is best", late.kind(0, 1, 1), 0);
        due.is("behind none all are alike", late.kind(1, 0, 0), 0);
        due.is("behind none", late.kind(1, 0, 1), 2);
    }

    private void begins() {
        WheelCount x = Due.told("plain 5 0;count 2;");
        due.is("begin(0, 3, 0)", x.begin(0, 3, 0), 2);
        due.is("begin(0, 3, 1)", x.begin(0, 3, 1), 0);
        WheelCount several = Due.told("plain 2 1;plain 5 4;count 4;");
        due.is("of several the least", several.begin(1, 0, 0), 1);
        due.is("how much", several.begin(1, 0, 1), 1);
        WheelCount last = Due.told("plain 12 0;count 11;");
        due.is("the last DIGIT", last.begin(0, 0, 0), 11);
        due.is("behind 200", last.begin(0, 200, 0), 11);
        WheelCount first = Due.told("plain 3 2;");
        due.is("the first DIGIT", first.begin(0, 0, 0), 0);
        WheelCount few = Due.told("plain 3 0;plain 3 0;count 3;");
        due.is("no DIGIT that it has not", few.begin(0, 0, 0), 2);
        due.is("ERROR then", few.begin(0, 0, 1), 1);
    }

    private void files() {
        WheelCount x = Due.told("plain 3 0;plain 3 0;");
        due.is("file(0, 3, 0)", x.file(0, 3, 0), 2);
        due.is("file(0, 3, 1)", x.file(0, 3, 1), 0);
        due.is("file(1, 3, 0)", x.file(1, 3, 0), 0);
        due.is("file(1, 3, 1)", x.file(1, 3, 1), 3);
        due.is("file(0, 0, 0)", x.file(0, 0, 0), 0);
        due.is("file(0, 200, 1)", x.file(0, 200, 1), 2);
        WheelCount worn = Due.told("plain 3 2 2;back 3 0;");
        due.is("in place of what is", worn.file(0, 1, 0), 2);
        due.is("in place of what is", worn.file(0, 1, 1), 0);
        WheelCount must = Due.told("back 3 0 0;back 3 1;");
        due.is("one is to be broken", must.file(0, 1, 0), 1);
        due.is("it READS least by a carry", must.file(0, 1, 1), 2);
    }

    private void wrongInputs() {
        WheelCount x = Due.told("plain 3 0;plain 3 0;");
        int[][] bad = {{-1, 0}, {201, 0}, {0, -1}, {0, 2}};
        for (int[] v : bad) {
            due.is("mend(" + v[0] + ", " + v[1] + ")", x.mend(v[0], v[1]), WheelCount.BAD);
            due.is("swap(" + v[0] + ", " + v[1] + ")", x.swap(v[0], v[1]), WheelCount.BAD);
            due.is("kind(0, " + v[0] + ", " + v[1] + ")", x.kind(0, v[0], v[1]), WheelCount.BAD);
            due.is("begin(0, " + v[0] + ", " + v[1] + ")", x.begin(0, v[0], v[1]), WheelCount.BAD);
            due.is("file(0, " + v[0] + ", " + v[1] + ")", x.file(0, v[0], v[1]), WheelCount.BAD);
        }
        for (int w = -1; w <= 2; w += 3) {
            due.is("kind(" + w + ", 0, 0)", x.kind(w, 0, 0), WheelCount.BAD);
            due.is("begin(" + w + ", 0, 0)", x.begin(w, 0, 0), WheelCount.BAD);
            due.is("file(" + w + ", 0, 0)", x.file(w, 0, 0), WheelCount.BAD);
        }
        due.is("mend without WHEELS", new WheelCount().mend(201, 0), WheelCount.BAD);
    }

    private void changesNothing() {
        WheelCount x = Due.told("plain 3 1 2;back 4 0 2;hasty 5 4;count 7;");
        String before = Due.state(x);
        x.mend(9, 0);
        x.swap(9, 0);
        x.kind(1, 9, 0);
        x.begin(1, 9, 0);
        x.file(1, 9, 0);
        due.holds("asking changes nothing", before.equals(Due.state(x)));
    }
}
