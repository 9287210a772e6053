/** Promises 13 to 18: pushes, runs, ahead, when, shows, again. */
public final class PushTest {
    private final Due due = new Due("PushTest");

    private PushTest() {
    }

    public static void main(String[] args) {
        PushTest test = new PushTest();
        test.pushes();
        test.fullCount();
        test.runs();
        test.runsOfKinds();
        test.ahead();
        test.when();
        test.shows();
        test.again();
        test.asksChangeNothing();
        test.due.close();
    }

    private void pushes() {
        WheelCount x = Due.told("plain 3 0;plain 2 0;count 4;");
        due.is("pushes(0)", x.pushes(0), 0);
        due.is("pushes(4)", x.pushes(4), 4);
        due.is("COUNT", x.rule(1), 8);
        due.is("pushes(1001)", x.pushes(1001), WheelCount.BAD);
        due.is("pushes(-1)", x.pushes(-1), WheelCount.BAD);
        due.is("COUNT stays", x.rule(1), 8);
        due.is("pushes(1000)", x.pushes(1000), 2);
        due.is("COUNT", x.rule(1), 1008);
        WheelCount none = new WheelCount();
        due.is("without WHEELS", none.pushes(7), 0);
        due.is("COUNT without WHEELS", none.rule(1), 7);
        WheelCount stuck = Due.told("plain 3 0 2;plain 2 0;");
        due.is("a BROKEN tooth does not carry", stuck.pushes(5), 2);
    }

    /** More calls than are promised: 1000000 can not be reached by fewer. */
    private void fullCount() {
        WheelCount x = new WheelCount();
        x.add(0, 10);
        for (int i = 0; i < 999; i++) {
            x.pushes(1000);
        }
        due.is("pushes(1000) to 1000000", x.pushes(1000), WheelCount.FULL);
        due.is("pushes(999) to 999999", x.pushes(999), 9);
        due.is("pushes(1)", x.pushes(1), WheelCount.FULL);
        due.is("pushes(0)", x.pushes(0), 9);
        due.is("pushes(1001)", x.pushes(1001), WheelCount.BAD);
        due.is("COUNT", x.rule(1), 999999);
        due.is("BY PUSHES it goes on", x.runs(3, 0), 2);
        due.is("ERROR goes on", x.runs(3, 3), 0);
        x.sheet(0, 0, 2);
        due.is("read() at 999999", x.read(0, 0, 0, 1), -20);
        due.is("DIGIT stays", x.wheel(0, 2), 9);
    }

    private void runs() {
        WheelCount x = Due.told("plain 3 0;plain 2 0;count 1;");
        int[][] want = {{0, 0, 0, 1, 0}, {5, 1, 5, 5, 0}, {0, 3, 5, 1, 1}, {1, 3, 5, 1, 1}, {0, 6, 5, 1, 2}};
        int[] behind = {0, 5, 6, 7, 12};
        for (int i = 0; i < behind.length; i++) {
            for (int what = 0; what < 5; what++) {
                due.is("runs(" + behind[i] + ", " + what + ")", x.runs(behind[i], what), want[i][what]);
            }
        }
        due.is("runs(1000, 1)", x.runs(1000, 1), 333 + 166);
        due.is("runs(1000, 4)", x.runs(1000, 4), 166);
        due.is("runs(1001, 0)", x.runs(1001, 0), WheelCount.BAD);
        due.is("runs(-1, 0)", x.runs(-1, 0), WheelCount.BAD);
        due.is("runs(0, 5)", x.runs(0, 5), WheelCount.BAD);
        due.is("runs(0, -1)", x.runs(0, -1), WheelCount.BAD);
        WheelCount high = Due.told("plain 3 2;plain 2 1;");
        due.is("the greatest, now too", high.runs(3, 2), 5);
        due.is("without WHEELS", new WheelCount().runs(9, 4), 9);
        WheelCount five = Due.told("plain 2 0;plain 2 0;plain 2 0;plain 2 0;plain 2 0;");
        due.is("five WHEELS: runs(32, 4)", five.runs(32, 4), 1);
        due.is("five WHEELS: runs(31, 2)", five.runs(40, 2), 31);
        due.is("five WHEELS: runs(32, 1)", five.runs(32, 1), 31);
    }

    private void runsOfKinds() {
        WheelCount back = Due.told("back 3 0;plain 2 0;");
        due.is("back, 1 push", back.runs(1, 0), 5);
        due.is("back, ERROR", back.runs(1, 3), 4);
        due.is("back, 4 pushes", back.runs(4, 0), 2);
        WheelCount late = Due.told("late 3 0;plain 2 0;");
        due.is("late, 1 push", late.runs(1, 0), 2);
        due.is("late, 2 pushes", late.runs(2, 0), 4);
        WheelCount hasty = Due.told("hasty 3 0;plain 5 0;");
        due.is("hasty, 1 push", hasty.runs(1, 0), 2);
        due.is("hasty, 2 pushes", hasty.runs(2, 0), 4);
        due.is("hasty, 3 pushes", hasty.runs(3, 0), 6);
        due.is("hasty carries twice in a round", hasty.runs(3, 1), 2);
    }

    private void ahead() {
        WheelCount x = Due.told("plain 3 1;back 4 0;");
        due.is("ahead(0, 0)", x.ahead(0, 0), 1);
        due.is("ahead(0, 4)", x.ahead(0, 4), 2);
        due.is("ahead(1, 1)", x.ahead(1, 1), 0);
        due.is("ahead(1, 2)", x.ahead(1, 2), 3);
        due.is("ahead(1, 1000)", x.ahead(1, 1000), 3);
        due.is("ahead(2, 0)", x.ahead(2, 0), WheelCount.BAD);
        due.is("ahead(-1, 0)", x.ahead(-1, 0), WheelCount.BAD);
        due.is("ahead(0, 1001)", x.ahead(0, 1001), WheelCount.BAD);
        due.is("ahead(0, -1)", x.ahead(0, -1), WheelCount.BAD);
    }

    private void when() {
        WheelCount x = Due.told("plain 10 0;plain 10 0;plain 11 0;");
        due.is("when(0)", x.when(0), 0);
        due.is("when(345)", x.when(345), 345);
        due.is("when(1000)", x.when(1000), 1000);
        due.is("when(1001)", x.when(1001), WheelCount.NONE);
        due.is("when(248831)", x.when(248831), WheelCount.NONE);
        due.is("when(248832)", x.when(248832), WheelCount.BAD);
        due.is("when(-1)", x.when(-1), WheelCount.BAD);
        due.is("without WHEELS", new WheelCount().when(1), WheelCount.NONE);
    }

    private void shows() {
        WheelCount x = Due.told("plain 10 3;plain 10 0;plain 12 0;");
        due.is("shows(0, 3)", x.shows(0, 3), 0);
        due.is("shows(0, 2)", x.shows(0, 2), 9);
        due.is("shows(0, 0)", x.shows(0, 0), 7);
        due.is("shows(1, 9)", x.shows(1, 9), 87);
        due.is("shows(2, 9)", x.shows(2, 9), 897);
        due.is("shows(2, 10)", x.shows(2, 10), 997);
        due.is("shows(2, 11)", x.shows(2, 11), WheelCount.NONE);
        due.is("a DIGIT that it has not", x.shows(0, 10), WheelCount.NONE);
        due.is("shows(0, 12)", x.shows(0, 12), WheelCount.BAD);
        due.is("shows(0, -1)", x.shows(0, -1), WheelCount.BAD);
        due.is("shows(3, 0)", x.shows(3, 0), WheelCount.BAD);
        due.is("shows(-1, 0)", x.shows(-1, 0), WheelCount.BAD);
        WheelCount last = Due.told("plain 10 0;plain 10 0;plain 12 0;");
        due.is("behind the 1000th", last.shows(2, 10), 1000);
    }

    private void again() {
        due.is("without WHEELS", new WheelCount().again(), 1);
        due.is("6", Due.told("plain 3 1;plain 2 1;").again(), 6);
        due.is("1000", Due.told("plain 10 1;plain 10 1;plain 10 5;").again(), 1000);
        due.is("more than 1000", Due.told("plain 10 1;plain 10 1;plain 11 5;").again(), WheelCount.NONE);
        due.is("hasty with 2 teeth", Due.told("hasty 2 1;").again(), 1);
        WheelCount asked = Due.told("plain 7 1;");
        asked.ahead(0, 4);
        due.is("another question ahead of it", asked.again(), 7);
        due.is("BROKEN", Due.told("plain 10 1 9;plain 10 1;plain 11 5;").again(), 10);
    }

    private void asksChangeNothing() {
        WheelCount x = Due.told("plain 3 1;back 4 0 2;hasty 5 4;count 7;");
        String before = Due.state(x);
        x.runs(9, 0);
        x.ahead(1, 9);
        x.when(59);
        x.shows(2, 3);
        x.again();
        due.holds("asking changes nothing", before.equals(Due.state(x)));
    }
}
