import java.util.List;

/** Boundaries that the document's terms name for WHEELS: how they turn, carry, read; and none of them. */
public final class WheelEdgeTest {
    private static final int PLAIN = 0, HASTY = 1, BACK = 2, LATE = 3;
    private static final int UNBROKEN = 12;

    private final Due due = new Due("WheelEdgeTest");

    private WheelEdgeTest() {
    }

    public static void main(String[] args) {
        WheelEdgeTest test = new WheelEdgeTest();
        test.plainFromTheLastOneToZero();
        test.hastyTwice();
        test.backFromZeroToTheLastOne();
        test.lateAsABackOne();
        test.plainCarriesFromTheLastDigit();
        test.hastyCarriesFromTheLastTwo();
        test.backCarriesFromZero();
        test.lateCarriesFromWhereABackOneGoes();
        test.brokenToothDoesNotCarry();
        test.nextOneTurnsIfThereIsOne();
        test.carryGoesOnAndOn();
        test.pushWithoutWheels();
        test.readsFromNothingToTheMost();
        test.errorModuloAll();
        test.errorWithoutSign();
        test.newObjectHasNothing();
        test.withoutWheels();
        test.firstAnswerThatFits();
        test.due.close();
    }

    private static WheelCount one(int kind, int teeth, int digit, int broken) {
        WheelCount x = new WheelCount();
        x.add(kind, teeth);
        x.alter(0, 2, digit);
        x.alter(0, 3, broken);
        return x;
    }

    private void goes(int kind, int teeth, int from, int to) {
        String name = "KIND " + kind + " with " + teeth + " TEETH from " + from;
        due.is(name + ": wheel(0, 4)", one(kind, teeth, from, UNBROKEN).wheel(0, 4), to);
        due.is(name + ": turn(0)", one(kind, teeth, from, UNBROKEN).turn(0), to);
        due.is(name + ": pushes(1)", one(kind, teeth, from, UNBROKEN).pushes(1), to);
        due.is(name + ", BROKEN there: it TURNS", one(kind, teeth, from, from).pushes(1), to);
    }

    private void plainFromTheLastOneToZero() {
        for (int teeth = 2; teeth <= 12; teeth++) {
            goes(PLAIN, teeth, teeth - 1, 0);
            goes(PLAIN, teeth, teeth - 2, teeth - 1);
            goes(PLAIN, teeth, 0, 1);
        }
    }

    private void hastyTwice() {
        goes(HASTY, 2, 0, 0);
        goes(HASTY, 2, 1, 1);
        for (int teeth = 3; teeth <= 12; teeth++) {
            goes(HASTY, teeth, teeth - 1, 1);
            goes(HASTY, teeth, teeth - 2, 0);
            goes(HASTY, teeth, teeth - 3, teeth - 1);
        }
    }

    private void backFromZeroToTheLastOne() {
        for (int teeth = 2; teeth <= 12; teeth++) {
            goes(BACK, teeth, 0, teeth - 1);
            goes(BACK, teeth, 1, 0);
            goes(BACK, teeth, teeth - 1, teeth - 2);
        }
    }

    private void lateAsABackOne() {
        for (int teeth = 2; teeth <= 12; teeth++) {
            goes(LATE, teeth, 0, teeth - 1);
            goes(LATE, teeth, 1, 0);
            goes(LATE, teeth, teeth - 1, teeth - 2);
        }
    }

    /** From which DIGITS a WHEEL carries, by rule(5) and by the WHEEL behind it. */
    private void carries(int kind, int teeth, List<Integer> from) {
        for (int digit = 0; digit < teeth; digit++) {
            String name = "KIND " + kind + " with " + teeth + " TEETH from " + digit;
            int want = from.contains(digit) ? 1 : 0;
            WheelCount x = one(kind, teeth, digit, UNBROKEN);
            due.is(name + ": rule(5)", x.rule(5), want);
            due.is(name + ": runs(1, 1)", x.runs(1, 1), want);
            x.add(PLAIN, 2);
            x.pushes(1);
            due.is(name + ": the next one", x.wheel(1, 2), want);
        }
    }

    private void plainCarriesFromTheLastDigit() {
        for (int teeth = 2; teeth <= 12; teeth++) {
            carries(PLAIN, teeth, List.of(teeth - 1));
        }
    }

    private void hastyCarriesFromTheLastTwo() {
        for (int teeth = 2; teeth <= 12; teeth++) {
            carries(HASTY, teeth, List.of(teeth - 2, teeth - 1));
        }
    }

    private void backCarriesFromZero() {
        for (int teeth = 2; teeth <= 12; teeth++) {
            carries(BACK, teeth, List.of(0));
        }
    }

    private void lateCarriesFromWhereABackOneGoes() {
        for (int teeth = 2; teeth <= 12; teeth++) {
            carries(LATE, teeth, List.of(teeth - 1));
        }
    }

    private void brokenToothDoesNotCarry() {
        int[][] carrying = {{PLAIN, 4}, {HASTY, 4}, {HASTY, 3}, {BACK, 0}, {LATE, 4}};
        for (int[] v : carrying) {
            for (int broken = 0; broken < 5; broken++) {
                WheelCount x = one(v[0], 5, v[1], broken);
                String name = "KIND " + v[0] + " from " + v[1] + ", BROKEN " + broken;
                due.is(name + ": rule(5)", x.rule(5), broken == v[1] ? 0 : 1);
                x.add(PLAIN, 2);
                x.pushes(1);
                due.is(name + ": the next one", x.wheel(1, 2), broken == v[1] ? 0 : 1);
            }
        }
        due.is("a BROKEN tooth does not make it CARRY", one(PLAIN, 5, 3, 3).rule(5), 0);
    }

    private void nextOneTurnsIfThereIsOne() {
        WheelCount x = Due.told("plain 2 1;");
        due.is("the only WHEEL CARRIES to none", x.runs(1, 1), 1);
        due.is("it READS", x.pushes(1), 0);
        WheelCount two = Due.told("plain 2 1;plain 2 0;");
        due.is("two: to the next one", two.pushes(1), 2);
        WheelCount five = Due.told("plain 2 0;plain 2 0;plain 2 0;plain 2 0;plain 2 1;");
        due.is("the 5th CARRIES to none", five.turn(4), 0);
    }

    private void carryGoesOnAndOn() {
        WheelCount five = Due.told("plain 2 1;back 3 0;hasty 4 2;late 5 4;plain 6 5;");
        due.is("all five would CARRY", five.rule(5), 31);
        due.is("five times", five.runs(1, 1), 5);
        due.is("0, 2, 0, 3, 0", five.pushes(1), 2 * 2 + 24 * 3);
        WheelCount stopped = Due.told("plain 2 1;back 3 0;hasty 4 2 2;late 5 4;plain 6 5;");
        due.is("not from the BROKEN one on", stopped.runs(1, 1), 2);
        due.is("0, 2, 0, 4, 5", stopped.pushes(1), 2 * 2 + 24 * 4 + 120 * 5);
        due.is("those behind would CARRY yet", stopped.rule(5), 24);
    }

    private void pushWithoutWheels() {
        WheelCount x = new WheelCount();
        due.is("pushes(1)", x.pushes(1), 0);
        due.is("COUNT is 1 more", x.rule(1), 1);
    }

    private void readsFromNothingToTheMost() {
        WheelCount x = new WheelCount();
        due.is("READS without WHEELS", x.rule(2), 0);
        due.is("ALL without WHEELS", x.rule(3), 1);
        int[] reads = {11, 143, 1727, 20735, 248831};
        for (int i = 0; i < 5; i++) {
            x.add(PLAIN, 12);
            x.alter(i, 2, 11);
            due.is("READS of " + (i + 1), x.rule(2), reads[i]);
            due.is("ALL of " + (i + 1), x.rule(3), reads[i] + 1);
        }
        due.is("when(248831)", x.when(248831), 0);
        due.is("from the most to 0", x.pushes(1), 0);
        WheelCount least = Due.told("plain 2 0;plain 2 0;");
        due.is("it READS 0", least.rule(2), 0);
        due.is("ALL of TEETH 2", least.rule(3), 4);
    }

    private void errorModuloAll() {
        int[] counts = {5, 6, 7, 11, 12, 13, 99};
        int[] errors = {5, 0, 1, 5, 0, 1, 3};
        for (int i = 0; i < counts.length; i++) {
            WheelCount x = Due.told("plain 3 0;plain 2 0;count " + counts[i] + ";");
            due.is("ERROR of 0 at COUNT " + counts[i], x.rule(4), errors[i]);
        }
        WheelCount x = Due.told("plain 2 0;");
        x.pushes(1000);
        due.is("COUNT 1000 is right by two TEETH", x.rule(4), 0);
        WheelCount none = new WheelCount();
        none.pushes(7);
        due.is("without WHEELS", none.rule(4), 0);
        due.is("without WHEELS, runs(5, 3)", none.runs(5, 3), 0);
    }

    private void errorWithoutSign() {
        due.is("READS more", Due.told("plain 10 7;count 4;").rule(4), 3);
        due.is("READS less", Due.told("plain 10 4;count 7;").rule(4), 3);
        due.is("READS as much", Due.told("plain 10 7;count 7;").rule(4), 0);
        due.is("it does not go round", Due.told("plain 10 0;count 9;").rule(4), 9);
    }

    private void newObjectHasNothing() {
        WheelCount x = new WheelCount();
        int[] rules = {0, 0, 0, 1, 0, 0};
        int[] counts = {0, 0, 0, WheelCount.NONE, 0, 0};
        for (int what = 0; what < 6; what++) {
            due.is("new: rule(" + what + ")", x.rule(what), rules[what]);
            due.is("new: count(" + what + ")", x.count(what), counts[what]);
        }
        due.is("new: fault()", x.fault(), 0);
        due.is("new: torn()", x.torn(), 0);
        for (int k = 0; k < 4; k++) {
            due.is("new: SHEET " + k + " has nothing", x.lay(k, 0, 0), -11);
        }
        due.is("new: IMAGE 0", x.back(0), WheelCount.STATE);
        due.is("new: IMAGE 1", x.back(1), WheelCount.STATE);
        due.is("new: nothing SEEN", x.forget(0), 0);
        due.is("new: THE TAPE", x.end(0), 0);
    }

    private void withoutWheels() {
        Edge none = new Edge(due, WheelCount::new);
        none.stays("none: rule(5)", x -> x.rule(5), 0);
        none.stays("none: wheel(0, 1)", x -> x.wheel(0, 1), WheelCount.BAD);
        none.stays("none: alter(0, 0, 0)", x -> x.alter(0, 0, 0), WheelCount.BAD);
        none.stays("none: turn(0)", x -> x.turn(0), WheelCount.BAD);
        none.stays("none: clear()", WheelCount::clear, 0);
        none.stays("none: cut(0)", x -> x.cut(0), 0);
        int[] runs = {0, 0, 0, 0, 9};
        for (int i = 0; i < 5; i++) {
            int what = i;
            none.stays("none: runs(9, " + what + ")", x -> x.runs(9, what), runs[what]);
        }
        none.stays("none: ahead(0, 0)", x -> x.ahead(0, 0), WheelCount.BAD);
        none.stays("none: when(0)", x -> x.when(0), 0);
        none.stays("none: when(1)", x -> x.when(1), WheelCount.NONE);
        none.stays("none: shows(0, 0)", x -> x.shows(0, 0), WheelCount.BAD);
        none.stays("none: again()", WheelCount::again, 1);
        none.stays("none: mend(9, 0)", x -> x.mend(9, 0), WheelCount.NONE);
        none.stays("none: swap(9, 0)", x -> x.swap(9, 0), WheelCount.NONE);
        none.stays("none: kind(0, 9, 0)", x -> x.kind(0, 9, 0), WheelCount.BAD);
        none.stays("none: begin(0, 9, 0)", x -> x.begin(0, 9, 0), WheelCount.BAD);
        none.stays("none: file(0, 9, 0)", x -> x.file(0, 9, 0), WheelCount.BAD);
        none.stays("none: luck(5, 0, 0, 8, 0)", x -> x.luck(5, 0, 0, 8, 0), WheelCount.BAD);
        none.stays("none: mean(5, 8, 0)", x -> x.mean(5, 8, 0), 0);
        none.stays("none: mean(5, 8, 1)", x -> x.mean(5, 8, 1), 1);
        none.stays("none: kinds(0)", x -> x.kinds(0), WheelCount.BAD);
        none.stays("none: broken(0)", x -> x.broken(0), WheelCount.BAD);
        none.stays("none: ask(0, 0)", x -> x.ask(0, 0), WheelCount.BAD);
        none.stays("none: drift(1, 1, 0)", x -> x.drift(1, 1, 0), WheelCount.STATE);
    }

    /** BAD comes ahead of STATE, FULL, NONE and of the answers below -9. */
    private void firstAnswerThatFits() {
        Edge none = new Edge(due, WheelCount::new);
        none.stays("drift: BAD, STATE", x -> x.drift(1, 0, 0), WheelCount.BAD);
        none.stays("back: BAD, STATE", x -> x.back(2), WheelCount.BAD);
        none.stays("mend: BAD, NONE", x -> x.mend(201, 0), WheelCount.BAD);
        none.stays("swap: BAD, NONE", x -> x.swap(0, 2), WheelCount.BAD);
        none.stays("when: BAD, NONE", x -> x.when(248832), WheelCount.BAD);
        none.stays("lay: BAD, NULL", x -> x.lay(4, 0, 0), WheelCount.BAD);
        none.stays("read: BAD, NULL", x -> x.read(4, 0, 0, 1), WheelCount.BAD);
        none.stays("sheet: BAD, SIZE", x -> x.sheet(4, 0, -1), WheelCount.BAD);
        Edge full = new Edge(due, Edge::full);
        full.stays("feed: BAD, FULL", x -> x.feed(128), WheelCount.BAD);
        full.stays("feed: FULL", x -> x.feed(127), WheelCount.FULL);
        full.stays("add: BAD, FULL by KIND", x -> x.add(4, 2), WheelCount.BAD);
        full.stays("add: BAD, FULL by TEETH", x -> x.add(0, 13), WheelCount.BAD);
        full.stays("add: FULL", x -> x.add(0, 12), WheelCount.FULL);
        full.stays("see: BAD, FULL by n", x -> x.see(201, 0), WheelCount.BAD);
        full.stays("see: BAD, FULL by v", x -> x.see(0, 248832), WheelCount.BAD);
        full.stays("see: FULL", x -> x.see(200, 248831), WheelCount.FULL);
        Edge few = new Edge(due, () -> Due.told("plain 2 0;"));
        few.stays("alter DIGIT: BAD, STATE", x -> x.alter(0, 2, 12), WheelCount.BAD);
        few.stays("alter DIGIT: STATE", x -> x.alter(0, 2, 11), WheelCount.STATE);
        few.stays("alter BROKEN: BAD, STATE", x -> x.alter(0, 3, 13), WheelCount.BAD);
        few.stays("alter BROKEN: STATE", x -> x.alter(0, 3, 11), WheelCount.STATE);
        few.stays("shows: BAD, NONE", x -> x.shows(0, 12), WheelCount.BAD);
        few.stays("shows: NONE", x -> x.shows(0, 11), WheelCount.NONE);
        few.stays("ask: BAD, NONE", x -> x.ask(0, 2), WheelCount.BAD);
        few.stays("ask: NONE", x -> x.ask(0, 1), WheelCount.NONE);
    }
}
