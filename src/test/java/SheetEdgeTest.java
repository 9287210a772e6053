/** Boundaries of promises 32 to 38: keep, back, sheet, lay, read, torn, count. */
public final class SheetEdgeTest {
    private static final int MIN = Integer.MIN_VALUE, MAX = Integer.MAX_VALUE;
    private static final int NULL = 1, INDEX = 2, CAST = 3;

    private final Due due = new Due("SheetEdgeTest");
    private final Edge rich = new Edge(due, Edge::rich);
    private final Edge full = new Edge(due, Edge::full);

    private SheetEdgeTest() {
    }

    public static void main(String[] args) {
        SheetEdgeTest test = new SheetEdgeTest();
        test.keepAndBackBad();
        test.keepWhetherThereWasOne();
        test.backStateIfThereIsNone();
        test.imagesOfNoneAndFive();
        test.imagesStandApart();
        test.sheetBad();
        test.sheetOfNoneAndMost();
        test.sheetBelowZero();
        test.sheetIsNew();
        test.layBad();
        test.layOnNothing();
        test.layOutside();
        test.layLowestBits();
        test.readBad();
        test.readNone();
        test.readMost();
        test.readFromCell();
        test.readHalfAPair();
        test.readOfAnotherLane();
        test.readOfNothing();
        test.faultThatIsFoundFirst();
        test.readWhatAlterRefuses();
        test.readRefusedAtEachPlace();
        test.readTheFirstMet();
        test.readDigitThenPush();
        test.readAtTheLastCount();
        test.readWithoutWheels();
        test.tornOfTheLatest();
        test.countBad();
        test.countsOfNone();
        test.countsOfMost();
        test.due.close();
    }

    /** A SHEET 1 of this lane has these CELLS. */
    private static WheelCount laid(String text, int lane, int... cells) {
        WheelCount x = Due.told(text);
        x.sheet(1, lane, cells.length);
        for (int i = 0; i < cells.length; i++) {
            x.lay(1, i, cells[i]);
        }
        return x;
    }

    private void keepAndBackBad() {
        rich.bounds("keep", 0, 1, (x, v) -> x.keep(v));
        rich.bounds("back", 0, 1, (x, v) -> x.back(v));
        full.bounds("back of five", 0, 1, (x, v) -> x.back(v));
    }

    private void keepWhetherThereWasOne() {
        WheelCount x = Due.told("plain 9 4;count 7;");
        for (int k = 0; k < 2; k++) {
            due.is("there was no IMAGE " + k, x.keep(k), 0);
            due.is("there was one", x.keep(k), 1);
            due.is("how many", x.count(1), k + 1);
        }
        x.pushes(3);
        due.is("a new IMAGE 1", x.keep(1), 1);
        due.is("IMAGE 0 is the old one", x.back(0), 7);
        due.is("IMAGE 1 is the new one", x.back(1), 10);
    }

    private void backStateIfThereIsNone() {
        for (int i = 0; i < 2; i++) {
            int k = i;
            Edge other = new Edge(due, () -> {
                WheelCount x = Due.told("plain 9 4;count 7;");
                x.keep(1 - k);
                return x;
            });
            other.stays("there is no IMAGE " + k, x -> x.back(k), WheelCount.STATE);
            other.stays("there is the other one", x -> x.back(1 - k), 7);
        }
        WheelCount x = Edge.rich();
        x.end(0);
        x.text();
        due.is("gone by a text", x.back(0), WheelCount.STATE);
        due.is("there was none any more", x.keep(0), 0);
    }

    private void imagesOfNoneAndFive() {
        WheelCount x = new WheelCount();
        x.pushes(5);
        x.keep(0);
        for (int i = 0; i < 5; i++) {
            x.add(i % 4, 12);
            x.alter(i, 2, i + 1);
            x.alter(i, 3, i + 2);
        }
        String five = Due.row(x);
        x.keep(1);
        due.is("no WHEELS: COUNT", x.back(0), 5);
        due.is("no WHEELS", x.rule(0), 0);
        due.is("five WHEELS: COUNT", x.back(1), 5);
        due.holds("five WHEELS, all of them", five.equals(Due.row(x)));
    }

    private void imagesStandApart() {
        WheelCount x = Edge.rich();
        x.back(0);
        String kept = Due.row(x);
        x.pushes(9);
        x.alter(0, 0, 3);
        x.alter(1, 1, 12);
        x.alter(1, 3, 0);
        x.cut(2);
        due.is("back(0) once more", x.back(0), 37);
        due.holds("it has not changed", kept.equals(Due.row(x)));
        due.is("SEEN stays", x.count(0), 3);
        due.is("THE TAPE stays", x.count(2), 6);
        due.is("IMAGES stay", x.count(1), 2);
    }

    private void sheetBad() {
        rich.bounds("sheet(k, 0, 3)", 0, 3, (x, v) -> x.sheet(v, 0, 3));
        rich.bounds("sheet(0, lane, 3)", 0, 2, (x, v) -> x.sheet(0, v, 3));
        rich.stays("41 CELLS", x -> x.sheet(0, 0, 41), WheelCount.BAD);
        rich.stays("far too many CELLS", x -> x.sheet(0, 0, MAX), WheelCount.BAD);
    }

    private void sheetOfNoneAndMost() {
        for (int lane = 0; lane < 3; lane++) {
            WheelCount x = new WheelCount();
            due.is("0 CELLS", x.sheet(0, lane, 0), 1);
            due.is("there are 0", x.count(3), 0);
            due.is("no CELL 0", x.lay(0, 0, 1), -10 - INDEX);
            due.is("40 CELLS", x.sheet(0, lane, 40), 1);
            due.is("there are 40", x.count(3), 40);
            due.is("CELL 39", x.lay(0, 39, 1), 1);
            due.is("no CELL 40", x.lay(0, 40, 1), -10 - INDEX);
        }
    }

    private void sheetBelowZero() {
        for (int i = 0; i < 4; i++) {
            int k = i;
            rich.stays("-1 CELLS of SHEET " + k, x -> x.sheet(k, 0, -1), -14);
            rich.stays("far fewer CELLS of SHEET " + k, x -> x.sheet(k, 2, MIN), -14);
        }
        rich.stays("BAD, SIZE by k", x -> x.sheet(4, 0, -1), WheelCount.BAD);
        rich.stays("BAD, SIZE by k", x -> x.sheet(-1, 0, -1), WheelCount.BAD);
        rich.stays("BAD, SIZE by lane", x -> x.sheet(0, 3, -1), WheelCount.BAD);
        rich.stays("BAD, SIZE by lane", x -> x.sheet(0, -1, MIN), WheelCount.BAD);
    }

    private void sheetIsNew() {
        WheelCount x = laid("plain 9 0;plain 9 0;", 1, 1, 7, 1, 7);
        due.is("another lane", x.sheet(1, 2, 4), 1);
        due.is("it is of that lane", x.read(1, 1, 0, 1), 0);
        due.is("CAST", x.torn(), CAST);
        due.is("CELLS 0", x.read(1, 2, 0, 2), 2);
        due.is("WHEEL 0 was SHOWN 0 and pushed", x.rule(2), 1);
        x.lay(1, 0, 1);
        x.sheet(1, 2, 2);
        due.is("fewer CELLS", x.lay(1, 2, 0), -10 - INDEX);
        due.is("CELL 0 is 0", x.read(1, 2, 0, 1), 1);
        due.is("it was WHEEL 0", x.rule(2), 1);
    }

    private void layBad() {
        rich.bounds("lay(k, 0, 0)", 0, 3, (x, v) -> x.lay(v, 0, 0));
        rich.bounds("lay(k, 99, 0)", 0, 3, (x, v) -> x.lay(v, 99, 0));
    }

    private void layOnNothing() {
        rich.stays("NULL", x -> x.lay(3, 0, 0), -10 - NULL);
        rich.stays("NULL, not INDEX", x -> x.lay(3, -1, 0), -10 - NULL);
        Edge none = new Edge(due, WheelCount::new);
        for (int i = 0; i < 4; i++) {
            int k = i;
            none.stays("NULL of SHEET " + k, x -> x.lay(k, 0, 0), -10 - NULL);
        }
        WheelCount x = Edge.rich();
        x.sheet(3, 0, 1);
        due.is("there is one then", x.lay(3, 0, 0), 1);
    }

    private void layOutside() {
        int[] sizes = {6, 5, 4};
        for (int i = 0; i < 3; i++) {
            int k = i;
            int[] outside = {-1, sizes[k], MIN, MAX};
            for (int cell : outside) {
                rich.stays("lay(" + k + ", " + cell + ", 1)", x -> x.lay(k, cell, 1), -10 - INDEX);
            }
            due.is("CELL 0 of SHEET " + k, Edge.rich().lay(k, 0, 1), 1);
            due.is("the last CELL of SHEET " + k, Edge.rich().lay(k, sizes[k] - 1, 1), 1);
        }
    }

    /** A CELL that becomes 3 is a DIGIT of WHEEL 0; one that does not is none. */
    private void layLowestBits() {
        int[] values = {3, 3 + 128, 3 + 256, 3 - 256, 3 + 32768, 3 + 65536, 3 - 65536, MIN + 3, MAX, MIN, 128, 255};
        boolean[][] three = {
            {true, true, true}, {false, false, false}, {true, false, false}, {true, false, false},
            {true, false, false}, {true, true, false}, {true, true, false}, {true, true, false},
            {false, false, false}, {false, false, false}, {false, false, false}, {false, false, false}};
        for (int i = 0; i < values.length; i++) {
            for (int lane = 0; lane < 3; lane++) {
                WheelCount x = laid("plain 9 8;", lane, 0, values[i]);
                String name = values[i] + " in lane " + lane;
                boolean zero = values[i] == MIN && lane < 2;
                due.is(name, x.read(1, lane, 0, 1), three[i][lane] || zero ? 1 : -20);
                due.is(name + ": DIGIT", x.wheel(0, 2), three[i][lane] ? 4 : zero ? 1 : 8);
            }
        }
    }

    private void readBad() {
        rich.bounds("read(k, 0, 0, 1)", 0, 3, (x, v) -> x.read(v, 0, 0, 1));
        rich.bounds("read(0, lane, 0, 1)", 0, 2, (x, v) -> x.read(0, v, 0, 1));
        rich.bounds("read(0, 0, 0, n)", 0, 20, (x, v) -> x.read(0, 0, 0, v));
        full.bounds("read(0, 2, 0, n)", 0, 20, (x, v) -> x.read(0, 2, 0, v));
    }

    private void readNone() {
        int[] from = {0, -1, 99, MIN, MAX};
        for (int f : from) {
            WheelCount x = laid("plain 3 1;count 7;", 1, 0, 2);
            String before = Due.state(x);
            due.is("read(1, 1, " + f + ", 0)", x.read(1, 1, f, 0), 0);
            due.is("torn()", x.torn(), 0);
            due.holds("nothing changes", before.equals(Due.state(x)));
        }
    }

    private void readMost() {
        WheelCount x = laid("plain 3 1;count 7;", 0, new int[40]);
        due.is("19", x.read(1, 0, 0, 19), 19);
        due.is("COUNT", x.rule(1), 26);
        due.is("20", x.read(1, 0, 0, 20), 20);
        due.is("COUNT", x.rule(1), 46);
        due.is("torn()", x.torn(), 0);
        due.is("21", x.read(1, 0, 0, 21), WheelCount.BAD);
        due.is("COUNT stays", x.rule(1), 46);
        due.is("20 from CELL 2 on: 19 were whole", x.read(1, 0, 2, 20), 19);
        due.is("INDEX", x.torn(), INDEX);
        due.is("COUNT", x.rule(1), 65);
    }

    /** CELLS 0 to 5; what is torn at once changes nothing (torn() was 2 ahead, too). */
    private void readFromCell() {
        int[] outside = {-1, -2, 5, 6, 7, MIN, MIN + 1, MAX, MAX - 1};
        for (int f : outside) {
            rich.stays("read(0, 0, " + f + ", 1)", x -> x.read(0, 0, f, 1), 0);
            rich.stays("read(0, 0, " + f + ", 20)", x -> x.read(0, 0, f, 20), 0);
        }
        WheelCount x = Edge.rich();
        due.is("from CELL 4 on", x.read(0, 0, 4, 1), 1);
        due.is("torn()", x.torn(), 0);
        due.is("from CELL 1 on", x.read(0, 0, 1, 2), 2);
        due.is("torn()", x.torn(), 0);
        due.is("from CELL 0 on: three were whole", x.read(0, 0, 0, 20), 3);
        due.is("torn()", x.torn(), INDEX);
        due.is("COUNT", x.rule(1), 46);
    }

    private void readHalfAPair() {
        int[] first = {0, 1, -1};
        for (int w : first) {
            WheelCount x = laid("plain 3 1;count 7;", 1, 0, 0, w);
            due.is("WHEEL " + w + " without a DIGIT", x.read(1, 1, 0, 2), 1);
            due.is("INDEX", x.torn(), INDEX);
            due.is("one came", x.rule(1), 8);
            due.is("none is whole", x.read(1, 1, 2, 1), 0);
            due.is("none came", x.rule(1), 8);
        }
    }

    private void readOfAnotherLane() {
        for (int lane = 0; lane < 3; lane++) {
            for (int as = 0; as < 3; as++) {
                WheelCount x = laid("plain 3 1;count 7;", lane, 0, 0);
                due.is("lane " + lane + " as " + as, x.read(1, as, 0, 1), as == lane ? 1 : 0);
                due.is("torn()", x.torn(), as == lane ? 0 : CAST);
                due.is("COUNT", x.rule(1), as == lane ? 8 : 7);
                due.is("it READS", x.rule(2), 1);
            }
        }
    }

    private void readOfNothing() {
        for (int k = 0; k < 4; k++) {
            for (int lane = 0; lane < 3; lane++) {
                WheelCount x = Due.told("plain 3 1;count 7;");
                due.is("SHEET " + k, x.read(k, lane, 0, 20), 0);
                due.is("NULL", x.torn(), NULL);
                due.is("COUNT", x.rule(1), 7);
            }
        }
    }

    private void faultThatIsFoundFirst() {
        WheelCount x = laid("plain 3 1;", 1);
        due.is("no CELLS", x.read(1, 1, 0, 1), 0);
        due.is("INDEX", x.torn(), INDEX);
        due.is("another lane, no CELLS", x.read(1, 0, 0, 1), 0);
        due.is("CAST", x.torn(), CAST);
        due.is("nothing, no such CELL", x.read(2, 0, -1, 1), 0);
        due.is("NULL", x.torn(), NULL);
    }

    /** WHEELS 0 and 1 with 3 and 12 TEETH; what the PUSH behind it makes of the DIGIT is told, too. */
    private void readWhatAlterRefuses() {
        String text = "plain 3 0;plain 12 0;count 7;";
        int[][] refused = {{-1, 0}, {2, 0}, {5, 0}, {12, 0}, {0, -1}, {0, 3}, {0, 11}, {0, 12}, {1, 12}, {1, -1}};
        for (int[] pair : refused) {
            Edge one = new Edge(due, () -> laid(text, 2, pair));
            one.stays("WHEEL " + pair[0] + ", DIGIT " + pair[1], x -> x.read(1, 2, 0, 1), -20);
        }
        int[][] taken = {{0, 0}, {0, 2}, {1, 0}, {1, 11}};
        int[] reads = {1, 3, 1, 34};
        for (int i = 0; i < taken.length; i++) {
            WheelCount x = laid(text, 2, taken[i]);
            due.is("WHEEL " + taken[i][0] + ", DIGIT " + taken[i][1], x.read(1, 2, 0, 1), 1);
            due.is("it READS", x.rule(2), reads[i]);
        }
    }

    private void readRefusedAtEachPlace() {
        for (int place = 0; place < 20; place++) {
            int[] cells = new int[40];
            cells[2 * place] = 1;
            int at = place;
            Edge one = new Edge(due, () -> laid("plain 3 1;count 7;", 0, cells));
            one.stays("refused at " + place, x -> x.read(1, 0, 0, 20), -20 - at);
            WheelCount x = laid("plain 3 1;count 7;", 0, cells);
            due.is("those ahead of " + place, x.read(1, 0, 0, place), place);
            due.is("came", x.rule(1), 7 + place);
        }
    }

    private void readTheFirstMet() {
        WheelCount x = laid("plain 3 1;count 7;", 1, 0, 0, 9, 0, 0);
        due.is("refused ahead of INDEX", x.read(1, 1, 0, 3), -21);
        due.is("none came", x.rule(1), 7);
        due.is("refused ahead of another", laid("plain 3 1;", 1, 0, 0, 9, 0, 9, 0).read(1, 1, 0, 3), -21);
        WheelCount torn = laid("plain 3 1;count 7;", 1, 0, 0, 9);
        due.is("INDEX ahead of what would be refused", torn.read(1, 1, 0, 3), 1);
        due.is("CAST ahead of what would be refused", laid("plain 3 1;", 1, 9, 9).read(1, 0, 0, 1), 0);
    }

    private void readDigitThenPush() {
        WheelCount x = laid("plain 3 0;plain 4 0;count 7;", 1, 0, 2, 1, 3, 0, 2);
        due.is("2, and it CARRIES", x.read(1, 1, 0, 1), 1);
        due.is("it READS", x.rule(2), 3);
        due.is("all three", x.read(1, 1, 0, 3), 3);
        due.is("0 2, then 1 3, then 0 0", x.rule(2), 0);
        due.is("COUNT", x.rule(1), 11);
    }

    /** More calls than are promised, for COUNT grows by 1000 a call at the most. */
    private void readAtTheLastCount() {
        WheelCount x = laid("plain 10 0;", 1, 0, 4, 0, 6);
        for (int i = 0; i < 999; i++) {
            x.pushes(1000);
        }
        x.pushes(998);
        due.is("COUNT", x.rule(1), 999998);
        due.is("two would be one too many", x.read(1, 1, 0, 2), -21);
        due.is("none came: COUNT", x.rule(1), 999998);
        due.is("none came: DIGIT", x.rule(2), 8);
        due.is("one", x.read(1, 1, 0, 1), 1);
        due.is("COUNT", x.rule(1), 999999);
        due.is("DIGIT", x.rule(2), 5);
        due.is("COUNT is 999999", x.read(1, 1, 0, 1), -20);
        due.is("none came: DIGIT", x.rule(2), 5);
        due.is("none is read", x.read(1, 1, 0, 0), 0);
        due.is("one that is not whole", x.read(1, 1, 3, 1), 0);
        due.is("INDEX", x.torn(), INDEX);
    }

    private void readWithoutWheels() {
        Edge none = new Edge(due, () -> laid("count 7;", 1, 0, 0));
        none.stays("no WHEEL 0", x -> x.read(1, 1, 0, 1), -20);
        none.stays("none is read", x -> x.read(1, 1, 0, 0), 0);
    }

    private void tornOfTheLatest() {
        WheelCount x = laid("plain 3 1;count 7;", 1, 0, 0, 9, 0);
        due.is("at first", x.torn(), 0);
        x.read(1, 2, 0, 1);
        due.is("CAST", x.torn(), CAST);
        due.is("BAD", x.read(1, 1, 0, 21), WheelCount.BAD);
        due.is("BAD: that one came to no end", x.torn(), CAST);
        due.is("refused", x.read(1, 1, 2, 1), -20);
        due.is("refused: that one came to no end", x.torn(), CAST);
        x.lay(0, 0, 0);
        x.lay(1, 9, 0);
        x.sheet(2, 0, -1);
        due.is("FAULTS of others are not asked by it", x.torn(), CAST);
        due.is("whole", x.read(1, 1, 0, 1), 1);
        due.is("none then", x.torn(), 0);
        x.read(0, 0, 0, 1);
        due.is("NULL", x.torn(), NULL);
        due.is("none is read", x.read(1, 1, 0, 0), 0);
        due.is("none then", x.torn(), 0);
    }

    private void countBad() {
        rich.bounds("count", 0, 5, (x, v) -> x.count(v));
        int[] want = {3, 2, 6, 6, 18, 2};
        for (int i = 0; i < want.length; i++) {
            int what = i;
            rich.stays("count(" + what + ")", x -> x.count(what), want[what]);
        }
    }

    private void countsOfNone() {
        int[] want = {0, 0, 0, WheelCount.NONE, 0, 0};
        Edge none = new Edge(due, WheelCount::new);
        for (int i = 0; i < want.length; i++) {
            int what = i;
            none.stays("count(" + what + ") of none", x -> x.count(what), want[what]);
        }
        WheelCount x = new WheelCount();
        x.sheet(1, 0, 7);
        due.is("another SHEET", x.count(3), WheelCount.NONE);
        x.sheet(0, 0, 0);
        due.is("a SHEET of 0 CELLS is not nothing", x.count(3), 0);
        due.is("TEETH 2, none BROKEN", Due.told("plain 2 0;").count(5), 0);
        due.is("the first one BROKEN", Due.told("plain 2 0 0;plain 2 0;").count(5), 1);
        due.is("the last one BROKEN", Due.told("plain 2 0;plain 2 0 1;").count(5), 1);
    }

    private void countsOfMost() {
        int[] want = {6, 2, 160, 40, 60, 5};
        for (int i = 0; i < want.length; i++) {
            int what = i;
            full.stays("count(" + what + ") of full", x -> x.count(what), want[what]);
        }
        WheelCount x = Edge.full();
        x.forget(5);
        x.end(159);
        x.sheet(0, 0, 39);
        x.cut(4);
        int[] less = {5, 2, 159, 39, 48, 4};
        for (int what = 0; what < less.length; what++) {
            due.is("count(" + what + ") of less", x.count(what), less[what]);
        }
    }
}
