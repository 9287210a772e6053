/** Boundaries of promises 13 to 18: pushes, runs, ahead, when, shows, again. */
public final class PushEdgeTest {
    private final Due due = new Due("PushEdgeTest");
    private final Edge rich = new Edge(due, Edge::rich);
    private final Edge full = new Edge(due, Edge::full);

    private PushEdgeTest() {
    }

    public static void main(String[] args) {
        PushEdgeTest test = new PushEdgeTest();
        test.pushesBad();
        test.pushesNoneAndMost();
        test.pushesFull();
        test.runsBad();
        test.runsOfNone();
        test.runsOfMost();
        test.greatestNowToo();
        test.zerosNotNow();
        test.carriesOfAnyWheel();
        test.aheadBad();
        test.aheadNoneAndMost();
        test.whenBad();
        test.whenNowAndLast();
        test.whenFirst();
        test.showsBad();
        test.showsNowAndLast();
        test.showsADigitThatItHasNot();
        test.againFromOneOn();
        test.againAtMost();
        test.againOfAllWheels();
        test.byPushesNothingChanges();
        test.due.close();
    }

    private void pushesBad() {
        rich.bounds("pushes", 0, 1000, (x, v) -> x.pushes(v));
        full.bounds("pushes of five", 0, 1000, (x, v) -> x.pushes(v));
    }

    private void pushesNoneAndMost() {
        rich.stays("pushes(0)", x -> x.pushes(0), 88);
        WheelCount x = Due.told("plain 10 0;plain 10 0;plain 12 0;");
        due.is("pushes(1)", x.pushes(1), 1);
        due.is("COUNT", x.rule(1), 1);
        due.is("pushes(999)", x.pushes(999), 1000);
        due.is("pushes(1000): round", x.pushes(1000), 800);
        due.is("COUNT", x.rule(1), 2000);
        due.is("ERROR", x.rule(4), 0);
    }

    /** More calls than are promised, for COUNT grows by 1000 a call at the most. */
    private void pushesFull() {
        WheelCount x = Due.told("plain 10 0;");
        for (int i = 0; i < 999; i++) {
            x.pushes(1000);
        }
        due.is("to 1000000", x.pushes(1000), WheelCount.FULL);
        due.is("COUNT stays", x.rule(1), 999000);
        due.is("DIGIT stays", x.rule(2), 0);
        due.is("to 999999", x.pushes(999), 9);
        due.is("pushes(0)", x.pushes(0), 9);
        due.is("pushes(1)", x.pushes(1), WheelCount.FULL);
        due.is("BAD, FULL", x.pushes(1001), WheelCount.BAD);
        due.is("COUNT", x.rule(1), 999999);
        due.is("BY PUSHES no COUNT is too much", x.runs(1000, 3), 0);
        due.is("turn() does not count", x.turn(0), 0);
    }

    private void runsBad() {
        rich.bounds("runs(n, 0)", 0, 1000, (x, v) -> x.runs(v, 0));
        rich.bounds("runs(n, 4)", 0, 1000, (x, v) -> x.runs(v, 4));
        rich.bounds("runs(0, what)", 0, 4, (x, v) -> x.runs(0, v));
        rich.bounds("runs(1000, what)", 0, 4, (x, v) -> x.runs(1000, v));
    }

    private void runsOfNone() {
        int[] want = {88, 0, 88, 48, 0};
        for (int i = 0; i < want.length; i++) {
            int what = i;
            rich.stays("runs(0, " + what + ")", x -> x.runs(0, what), want[what]);
        }
    }

    private void runsOfMost() {
        WheelCount x = Due.told("plain 10 0;plain 10 0;plain 10 0;count 7;");
        int[] want = {0, 111, 999, 7, 1};
        for (int what = 0; what < want.length; what++) {
            due.is("runs(1000, " + what + ")", x.runs(1000, what), want[what]);
        }
        int[] less = {999, 99 + 9, 999, 999 - 6, 0};
        for (int what = 0; what < less.length; what++) {
            due.is("runs(999, " + what + ")", x.runs(999, what), less[what]);
        }
    }

    private void greatestNowToo() {
        WheelCount x = Due.told("plain 9 8;");
        due.is("now alone", x.runs(0, 2), 8);
        due.is("now, for it is 0 behind the first", x.runs(1, 2), 8);
        WheelCount last = Due.told("plain 9 2;");
        due.is("behind the last", last.runs(5, 2), 7);
        due.is("behind the last", last.runs(6, 2), 8);
        due.is("behind one between", last.runs(7, 2), 8);
    }

    private void zerosNotNow() {
        WheelCount x = Due.told("plain 4 0;");
        int[] want = {0, 0, 0, 0, 1, 1, 1, 1, 2};
        for (int n = 0; n < want.length; n++) {
            due.is("runs(" + n + ", 4)", x.runs(n, 4), want[n]);
        }
        WheelCount two = Due.told("plain 2 1;plain 2 1;");
        due.is("both SHOW 0", two.runs(1, 4), 1);
        WheelCount stuck = Due.told("plain 2 1 1;plain 2 1;");
        due.is("one never does", stuck.runs(1000, 4), 0);
        due.is("a hasty one is there all the time", Due.told("hasty 2 0;").runs(1000, 4), 1000);
        WheelCount five = Due.told("plain 2 0;plain 2 0;plain 2 0;plain 2 0;plain 2 0;");
        due.is("five: behind the 31st not yet", five.runs(31, 4), 0);
        due.is("five: behind the 32nd", five.runs(32, 4), 1);
    }

    private void carriesOfAnyWheel() {
        WheelCount x = Due.told("plain 2 1;plain 2 1;");
        due.is("none", x.runs(0, 1), 0);
        due.is("both, the last one too", x.runs(1, 1), 2);
        due.is("none more", x.runs(2, 1), 2);
        due.is("the first one", x.runs(3, 1), 3);
        due.is("what it carried now is not counted again", x.runs(1, 1), 2);
    }

    private void aheadBad() {
        rich.bounds("ahead(w, 0) of four", 0, 3, (x, v) -> x.ahead(v, 0));
        rich.bounds("ahead(0, n)", 0, 1000, (x, v) -> x.ahead(0, v));
        full.bounds("ahead(w, 1000) of five", 0, 4, (x, v) -> x.ahead(v, 1000));
    }

    private void aheadNoneAndMost() {
        rich.stays("ahead(1, 0): now", x -> x.ahead(1, 0), 4);
        WheelCount x = Due.told("plain 10 0;plain 10 0;plain 12 0;");
        due.is("ahead(2, 999)", x.ahead(2, 999), 9);
        due.is("ahead(2, 1000)", x.ahead(2, 1000), 10);
        due.is("ahead(0, 1)", x.ahead(0, 1), 1);
        due.is("nothing is pushed", x.rule(2), 0);
    }

    private void whenBad() {
        rich.bounds("when", 0, 248831, (x, v) -> x.when(v));
        full.bounds("when of five", 0, 248831, (x, v) -> x.when(v));
    }

    private void whenNowAndLast() {
        rich.stays("when(88): now", x -> x.when(88), 0);
        WheelCount x = Due.told("plain 10 0;plain 10 0;plain 12 0;");
        due.is("when(0)", x.when(0), 0);
        due.is("when(1)", x.when(1), 1);
        due.is("when(999)", x.when(999), 999);
        due.is("when(1000)", x.when(1000), 1000);
        due.is("when(1001)", x.when(1001), WheelCount.NONE);
        due.is("more than ALL", x.when(1200), WheelCount.NONE);
        due.is("when(248831)", x.when(248831), WheelCount.NONE);
        WheelCount most = Due.told("plain 12 10;plain 12 11;plain 12 11;plain 12 11;plain 12 11;");
        due.is("the most", most.when(248831), 1);
        due.is("round to 0", most.when(0), 2);
    }

    private void whenFirst() {
        WheelCount x = Due.told("plain 4 1;");
        due.is("now, not 4 later", x.when(1), 0);
        due.is("3, not 7", x.when(0), 3);
        due.is("never", x.when(4), WheelCount.NONE);
    }

    private void showsBad() {
        rich.bounds("shows(w, 0) of four", 0, 3, (x, v) -> x.shows(v, 0));
        rich.bounds("shows(0, d)", 0, 11, (x, v) -> x.shows(0, v));
        full.bounds("shows(w, 11) of five", 0, 4, (x, v) -> x.shows(v, 11));
        full.bounds("shows(0, d) of 12 TEETH", 0, 11, (x, v) -> x.shows(0, v));
    }

    private void showsNowAndLast() {
        rich.stays("shows(1, 4): now", x -> x.shows(1, 4), 0);
        WheelCount x = Due.told("plain 10 0;plain 10 0;plain 12 0;");
        due.is("shows(0, 0): now, not 10", x.shows(0, 0), 0);
        due.is("shows(0, 1)", x.shows(0, 1), 1);
        due.is("shows(2, 10)", x.shows(2, 10), 1000);
        due.is("shows(2, 11): 1100", x.shows(2, 11), WheelCount.NONE);
        WheelCount later = Due.told("plain 10 9;plain 10 9;plain 12 11;");
        due.is("shows(2, 9): 901", later.shows(2, 9), 901);
        due.is("shows(2, 10): 1001", later.shows(2, 10), WheelCount.NONE);
        due.is("shows(2, 11): now", later.shows(2, 11), 0);
    }

    private void showsADigitThatItHasNot() {
        for (int teeth = 2; teeth < 12; teeth++) {
            WheelCount x = Due.told("plain " + teeth + " 0;");
            due.is("the last of " + teeth, x.shows(0, teeth - 1), teeth - 1);
            due.is("one more than the last of " + teeth, x.shows(0, teeth), WheelCount.NONE);
            due.is("11 of " + teeth, x.shows(0, 11), WheelCount.NONE);
        }
        due.is("11 of 12", Due.told("plain 12 0;").shows(0, 11), 11);
        due.is("a hasty one leaves it out", Due.told("hasty 4 0;").shows(0, 1), WheelCount.NONE);
    }

    private void againFromOneOn() {
        due.is("without WHEELS: behind 1, not now", new WheelCount().again(), 1);
        due.is("hasty with 2 TEETH", Due.told("hasty 2 1;").again(), 1);
        due.is("plain with 2 TEETH", Due.told("plain 2 1;").again(), 2);
        due.is("hasty with 4 TEETH", Due.told("hasty 4 1;").again(), 2);
        due.is("hasty with 3 TEETH", Due.told("hasty 3 1;").again(), 3);
    }

    private void againAtMost() {
        due.is("990", Due.told("plain 9 1;plain 10 1;plain 11 5;").again(), 990);
        due.is("1000", Due.told("plain 10 1;plain 10 1;plain 10 5;").again(), 1000);
        due.is("1008", Due.told("plain 12 1;plain 12 1;plain 7 5;").again(), WheelCount.NONE);
        rich.stays("3 by a hasty one, times 5, times 4, times 3", WheelCount::again, 180);
        full.stays("five with 12 TEETH", WheelCount::again, WheelCount.NONE);
    }

    private void againOfAllWheels() {
        due.is("the last one, too", Due.told("plain 2 0;plain 2 0;plain 2 0;plain 2 0;plain 2 0;").again(), 32);
        due.is("one that is never turned", Due.told("plain 5 0 4;plain 7 3;").again(), 5);
        due.is("the first one alone differs", Due.told("plain 5 0;hasty 2 0;").again(), 5);
        WheelCount asked = Due.told("plain 7 1;");
        asked.ahead(0, 4);
        due.is("from now on, whatever was asked before", asked.again(), 7);
    }

    /** As it would be: no question of these pushes. */
    private void byPushesNothingChanges() {
        for (int i = 0; i <= 4; i++) {
            int what = i;
            rich.stays("runs(1000, " + what + ")", x -> Math.min(0, x.runs(1000, what)), 0);
            full.stays("runs(1000, " + what + ")", x -> Math.min(0, x.runs(1000, what)), 0);
        }
        full.stays("ahead(1, 1000)", x -> Math.min(0, x.ahead(1, 1000)), 0);
        full.stays("when(1)", x -> x.when(1), WheelCount.NONE);
        rich.stays("shows(0, 11)", x -> x.shows(0, 11), WheelCount.NONE);
    }
}
