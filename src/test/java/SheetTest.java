/** Promises 32 to 38: keep, back, sheet, lay, read, torn, count. */
public final class SheetTest {
    private final Due due = new Due("SheetTest");

    private SheetTest() {
    }

    public static void main(String[] args) {
        SheetTest test = new SheetTest();
        test.images();
        test.sheets();
        test.lays();
        test.lowestBits();
        test.reads();
        test.readsTorn();
        test.readsRefused();
        test.tornStays();
        test.counts();
        test.due.close();
    }

    private void images() {
        WheelCount x = Due.told("plain 5 3 1;late 4 2;count 8;");
        due.is("keep(-1)", x.keep(-1), WheelCount.BAD);
        due.is("keep(2)", x.keep(2), WheelCount.BAD);
        due.is("back(-1)", x.back(-1), WheelCount.BAD);
        due.is("back(2)", x.back(2), WheelCount.BAD);
        due.is("back(1)", x.back(1), WheelCount.STATE);
        due.is("keep(1)", x.keep(1), 0);
        String kept = Due.row(x);
        due.is("back(0)", x.back(0), WheelCount.STATE);
        x.pushes(7);
        x.alter(0, 0, 2);
        x.alter(1, 1, 9);
        x.alter(0, 3, 4);
        x.add(1, 6);
        x.see(3, 3);
        due.is("keep(0)", x.keep(0), 0);
        x.cut(0);
        due.is("back(1)", x.back(1), 8);
        due.is("SEEN stays", x.forget(0), 1);
        x.clear();
        due.is("back(1) once more", x.back(1), 8);
        due.is("IMAGES", x.count(1), 2);
        due.holds("all is as it was", kept.equals(Due.row(x)));
        due.is("back(0)", x.back(0), 15);
        due.is("three WHEELS", x.rule(0), 3);
        due.is("keep(0) again", x.keep(0), 1);
    }

    private void sheets() {
        WheelCount x = new WheelCount();
        due.is("sheet(4, 0, 1)", x.sheet(4, 0, 1), WheelCount.BAD);
        due.is("sheet(-1, 0, 1)", x.sheet(-1, 0, 1), WheelCount.BAD);
        due.is("sheet(0, 3, 1)", x.sheet(0, 3, 1), WheelCount.BAD);
        due.is("sheet(0, -1, 1)", x.sheet(0, -1, 1), WheelCount.BAD);
        due.is("sheet(0, 0, 41)", x.sheet(0, 0, 41), WheelCount.BAD);
        due.is("sheet(0, 0, -1)", x.sheet(0, 0, -1), -14);
        due.is("sheet(0, 0, min)", x.sheet(0, 0, Integer.MIN_VALUE), -14);
        due.is("BAD is ahead of SIZE", x.sheet(0, 3, -1), WheelCount.BAD);
        due.is("nothing yet", x.count(3), WheelCount.NONE);
        due.is("sheet(0, 2, 40)", x.sheet(0, 2, 40), 1);
        due.is("40 CELLS", x.count(3), 40);
        due.is("SIZE changes nothing", x.sheet(0, 0, -1), -14);
        due.is("40 CELLS", x.count(3), 40);
        due.is("sheet(0, 2, 0)", x.sheet(0, 2, 0), 1);
        due.is("0 CELLS", x.count(3), 0);
    }

    private void lays() {
        WheelCount x = new WheelCount();
        due.is("lay(-1, 0, 0)", x.lay(-1, 0, 0), WheelCount.BAD);
        due.is("lay(4, 0, 0)", x.lay(4, 0, 0), WheelCount.BAD);
        due.is("NULL", x.lay(3, -1, 0), -11);
        for (int lane = 0; lane < 3; lane++) {
            x.sheet(3, lane, 2);
            due.is("INDEX 2", x.lay(3, 2, 0), -12);
            due.is("INDEX -1", x.lay(3, -1, 0), -12);
            due.is("lay(3, 1, 5)", x.lay(3, 1, 5), 1);
            due.is("lay(3, 0, 5)", x.lay(3, 0, 5), 1);
        }
        x.sheet(3, 0, 0);
        due.is("no CELLS", x.lay(3, 0, 0), -12);
    }

    /** WHEEL 0 is given the DIGIT 3 by the lowest bits, and is pushed to 4; else it is refused. */
    private void lowestBits() {
        int[] laid = {256 + 3, -256 + 3, 65536 + 3, 128, 3};
        int[][] want = {{1, -20, -20}, {1, -20, -20}, {1, 1, -20}, {-20, -20, -20}, {1, 1, 1}};
        for (int i = 0; i < laid.length; i++) {
            for (int lane = 0; lane < 3; lane++) {
                WheelCount x = Due.told("plain 9 0;");
                x.sheet(2, lane, 2);
                x.lay(2, 1, laid[i]);
                due.is(laid[i] + " in lane " + lane, x.read(2, lane, 0, 1), want[i][lane]);
                due.is(laid[i] + " in lane " + lane + ": DIGIT", x.wheel(0, 2), want[i][lane] == 1 ? 4 : 0);
            }
        }
    }

    private static WheelCount laid(String text, int... cells) {
        WheelCount x = Due.told(text);
        x.sheet(1, 1, cells.length);
        for (int i = 0; i < cells.length; i++) {
            x.lay(1, i, cells[i]);
        }
        return x;
    }

    private void reads() {
        WheelCount x = laid("plain 3 0;plain 4 0;count 9;", 0, 2, 1, 3, 0, 1);
        due.is("read(1, 1, 0, 1)", x.read(1, 1, 0, 1), 1);
        due.is("a DIGIT, then a PUSH that carries", x.rule(2), 3);
        due.is("COUNT", x.rule(1), 10);
        due.is("read(1, 1, 2, 2)", x.read(1, 1, 2, 2), 2);
        due.is("it READS", x.rule(2), 11);
        due.is("COUNT", x.rule(1), 12);
        due.is("torn()", x.torn(), 0);
        x.sheet(3, 2, 2);
        due.is("SHEET 3", x.read(3, 2, 0, 1), 1);
        due.is("read(1, 1, 1, 1): from any CELL", x.read(1, 1, 1, 1), -20);
        due.is("read(1, 1, 0, 0)", x.read(1, 1, 0, 0), 0);
        due.is("read(1, 1, 99, 0): none is read", x.read(1, 1, 99, 0), 0);
        due.is("torn()", x.torn(), 0);
        x.sheet(1, 1, 2);
        due.is("a new row", x.read(1, 1, 0, 1), 1);
        due.is("CELLS are 0, then a PUSH", x.wheel(0, 2), 1);
        WheelCount many = laid("plain 3 0;", new int[40]);
        due.is("20 of them", many.read(1, 1, 0, 20), 20);
        due.is("COUNT", many.rule(1), 20);
        due.is("21 of them", many.read(1, 1, 0, 21), WheelCount.BAD);
    }

    private void readsTorn() {
        WheelCount x = laid("plain 3 0;plain 4 0;", 0, 2, 1, 3, 0);
        due.is("two were whole ahead", x.read(1, 1, 0, 9), 2);
        due.is("INDEX", x.torn(), 2);
        due.is("these came", x.rule(1), 2);
        due.is("it READS", x.rule(2), 10);
        due.is("another lane", x.read(1, 0, 0, 1), 0);
        due.is("CAST", x.torn(), 3);
        due.is("another lane, no such CELL", x.read(1, 2, -1, 1), 0);
        due.is("CAST is met first", x.torn(), 3);
        due.is("nothing", x.read(0, 1, 0, 1), 0);
        due.is("NULL", x.torn(), 1);
        int[] from = {-1, 4, 5, Integer.MAX_VALUE, Integer.MIN_VALUE, Integer.MAX_VALUE - 1};
        for (int f : from) {
            x.read(0, 1, 0, 1);
            due.is("read(1, 1, " + f + ", 2)", x.read(1, 1, f, 2), 0);
            due.is("INDEX", x.torn(), 2);
        }
        due.is("none came", x.rule(1), 2);
        WheelCount ahead = laid("plain 3 0;", 0, 0, 7);
        due.is("a bad WHEEL that is not whole", ahead.read(1, 1, 0, 2), 1);
    }

    private void readsRefused() {
        int[][] cells = {{0, 2, 2, 0}, {0, 2, -1, 0}, {0, 2, 0, 3}, {0, 2, 0, 12}, {0, 2, 0, -1}};
        for (int[] row : cells) {
            WheelCount x = laid("plain 3 0;plain 4 0;count 7;", row);
            String before = Due.state(x);
            String call = row[2] + ", " + row[3];
            due.is("the second is refused: " + call, x.read(1, 1, 0, 2), -21);
            due.is("it is the first: " + call, x.read(1, 1, 2, 1), -20);
            due.is("it is met ahead of the end: " + call, x.read(1, 1, 0, 9), -21);
            due.holds("none came: " + call, before.equals(Due.state(x)));
        }
        WheelCount x = laid("plain 3 0;", 0, 2);
        due.is("k 4", x.read(4, 1, 0, 1), WheelCount.BAD);
        due.is("k -1", x.read(-1, 1, 0, 1), WheelCount.BAD);
        due.is("lane 3", x.read(1, 3, 0, 1), WheelCount.BAD);
        due.is("lane -1", x.read(1, -1, 0, 1), WheelCount.BAD);
        due.is("n -1", x.read(1, 1, 0, -1), WheelCount.BAD);
        x.cut(0);
        due.is("without WHEELS", x.read(1, 1, 0, 1), -20);
    }

    private void tornStays() {
        WheelCount x = laid("plain 3 0;", 0, 2, 9, 9);
        due.is("at first", x.torn(), 0);
        x.read(1, 2, 0, 1);
        due.is("CAST", x.torn(), 3);
        x.read(9, 2, 0, 1);
        due.is("behind BAD", x.torn(), 3);
        due.is("refused", x.read(1, 1, 0, 2), -21);
        due.is("behind one that is refused", x.torn(), 3);
        x.lay(0, 0, 0);
        x.sheet(0, 0, -1);
        due.is("behind others", x.torn(), 3);
        x.read(1, 1, 0, 1);
        due.is("behind a whole one", x.torn(), 0);
    }

    private void counts() {
        WheelCount x = Due.told("plain 3 0;late 12 5 5;back 7 0 0;");
        Due.write(x, "late");
        x.see(0, 0);
        x.see(0, 0);
        x.keep(1);
        x.sheet(0, 2, 17);
        x.sheet(1, 2, 18);
        int[] want = {2, 1, 4, 17, 22, 2};
        for (int what = 0; what < 6; what++) {
            due.is("count(" + what + ")", x.count(what), want[what]);
        }
        due.is("count(-1)", x.count(-1), WheelCount.BAD);
        due.is("count(6)", x.count(6), WheelCount.BAD);
        x.cut(2);
        due.is("TEETH of two", x.count(4), 15);
        due.is("one is BROKEN", x.count(5), 1);
    }
}
