/** Promises 6 to 12: rule, wheel, alter, add, cut, turn, clear. */
public final class ChangeTest {
    private final Due due = new Due("ChangeTest");

    private ChangeTest() {
    }

    public static void main(String[] args) {
        ChangeTest test = new ChangeTest();
        test.rules();
        test.turnsByKind();
        test.carriesByKind();
        test.wheels();
        test.alters();
        test.altersTeeth();
        test.adds();
        test.cuts();
        test.turnsByHand();
        test.clears();
        test.due.close();
    }

    private void rules() {
        WheelCount x = Due.told("plain 10 3;back 5 0;plain 2 1 1;count 14;");
        int[] want = {3, 14, 53, 100, 39, 2};
        for (int what = 0; what < 6; what++) {
            due.is("rule(" + what + ")", x.rule(what), want[what]);
        }
        due.is("rule(-1)", x.rule(-1), WheelCount.BAD);
        due.is("rule(6)", x.rule(6), WheelCount.BAD);
        WheelCount few = Due.told("plain 3 0;plain 2 0;count 17;");
        due.is("ERROR: from 17 modulo 6", few.rule(4), 5);
        WheelCount all = Due.told("late 12 11;late 12 11;late 12 11;late 12 11;late 12 11;");
        due.is("it READS the most", all.rule(2), 248831);
        due.is("ALL", all.rule(3), 248832);
        due.is("ERROR", all.rule(4), 248831);
        due.is("all would CARRY", all.rule(5), 31);
        due.is("none", new WheelCount().rule(3), 1);
    }

    private void turnsByKind() {
        int[][] to = {{1, 2, 3, 0}, {2, 3, 0, 1}, {3, 0, 1, 2}, {3, 0, 1, 2}};
        for (int kind = 0; kind < 4; kind++) {
            for (int from = 0; from < 4; from++) {
                WheelCount x = new WheelCount();
                x.add(kind, 4);
                x.alter(0, 2, from);
                String call = "KIND " + kind + " from " + from;
                due.is(call + ": wheel(0, 4)", x.wheel(0, 4), to[kind][from]);
                due.is(call + ": it is not turned", x.wheel(0, 2), from);
                due.is(call + ": turn(0)", x.turn(0), to[kind][from]);
            }
        }
        WheelCount two = new WheelCount();
        two.add(1, 2);
        due.is("hasty with 2 teeth", two.wheel(0, 4), 0);
        two.alter(0, 2, 1);
        due.is("hasty with 2 teeth", two.wheel(0, 4), 1);
    }

    private void carriesByKind() {
        int[][] carries = {{0, 0, 0, 1}, {0, 0, 1, 1}, {1, 0, 0, 0}, {0, 0, 0, 1}};
        for (int kind = 0; kind < 4; kind++) {
            for (int from = 0; from < 4; from++) {
                for (int broken = 0; broken <= 12; broken += broken == 3 ? 9 : 1) {
                    WheelCount x = new WheelCount();
                    x.add(kind, 4);
                    x.add(0, 7);
                    x.alter(0, 2, from);
                    x.alter(0, 3, broken);
                    int want = broken == from ? 0 : carries[kind][from];
                    String call = "KIND " + kind + " from " + from + " broken " + broken;
                    due.is(call + ": rule(5)", x.rule(5), want);
                    x.turn(0);
                    due.is(call + ": the next one", x.wheel(1, 2), want);
                }
            }
        }
    }

    private void wheels() {
        WheelCount x = Due.told("hasty 6 4;late 7 0 3;");
        int[][] want = {{1, 6, 4, 12, 0}, {3, 7, 0, 3, 6}};
        for (int w = 0; w < 2; w++) {
            for (int what = 0; what < 5; what++) {
                due.is("wheel(" + w + ", " + what + ")", x.wheel(w, what), want[w][what]);
            }
        }
        due.is("wheel(0, 5)", x.wheel(0, 5), WheelCount.BAD);
        due.is("wheel(0, -1)", x.wheel(0, -1), WheelCount.BAD);
        due.is("wheel(2, 0)", x.wheel(2, 0), WheelCount.BAD);
        due.is("wheel(-1, 4)", x.wheel(-1, 4), WheelCount.BAD);
    }

    private void alters() {
        WheelCount x = Due.told("hasty 6 4;late 7 0 3;");
        int[][] bad = {{2, 0, 0}, {-1, 0, 0}, {0, -1, 0}, {0, 4, 0}, {0, 0, -1}, {0, 0, 4}, {0, 1, 1}, {0, 1, 13},
            {0, 2, -1}, {0, 2, 12}, {0, 3, -1}, {0, 3, 13}};
        for (int[] v : bad) {
            due.is("alter(" + v[0] + ", " + v[1] + ", " + v[2] + ")", x.alter(v[0], v[1], v[2]), WheelCount.BAD);
        }
        due.is("alter(0, 2, 6)", x.alter(0, 2, 6), WheelCount.STATE);
        due.is("alter(0, 2, 11)", x.alter(0, 2, 11), WheelCount.STATE);
        due.is("alter(0, 3, 6)", x.alter(0, 3, 6), WheelCount.STATE);
        due.is("alter(0, 3, 11)", x.alter(0, 3, 11), WheelCount.STATE);
        due.is("nothing has changed", x.rule(2), 4);
        due.is("alter(0, 0, 3)", x.alter(0, 0, 3), 1);
        due.is("alter(0, 0, 0)", x.alter(0, 0, 0), 3);
        due.is("alter(0, 2, 5)", x.alter(0, 2, 5), 4);
        due.is("alter(0, 3, 5)", x.alter(0, 3, 5), 12);
        due.is("alter(0, 3, 12)", x.alter(0, 3, 12), 5);
        due.is("alter(1, 2, 6)", x.alter(1, 2, 6), 0);
        due.is("it READS", x.rule(2), 41);
    }

    private void altersTeeth() {
        WheelCount x = Due.told("plain 6 4;plain 6 1 3;");
        due.is("TEETH as its DIGIT", x.alter(0, 1, 4), WheelCount.STATE);
        due.is("TEETH below its DIGIT", x.alter(0, 1, 2), WheelCount.STATE);
        due.is("TEETH above its DIGIT", x.alter(0, 1, 5), 6);
        due.is("TEETH 12", x.alter(0, 1, 12), 5);
        due.is("TEETH as its BROKEN tooth", x.alter(1, 1, 3), WheelCount.STATE);
        due.is("TEETH below its BROKEN tooth", x.alter(1, 1, 2), WheelCount.STATE);
        due.is("TEETH above its BROKEN tooth", x.alter(1, 1, 4), 6);
        due.is("mended", x.alter(1, 3, 12), 3);
        due.is("TEETH 2 then", x.alter(1, 1, 2), 4);
        due.is("ALL", x.rule(3), 24);
    }

    private void adds() {
        WheelCount x = new WheelCount();
        due.is("add(-1, 2)", x.add(-1, 2), WheelCount.BAD);
        due.is("add(4, 2)", x.add(4, 2), WheelCount.BAD);
        due.is("add(0, 1)", x.add(0, 1), WheelCount.BAD);
        due.is("add(0, 13)", x.add(0, 13), WheelCount.BAD);
        for (int i = 0; i < 5; i++) {
            due.is("add", x.add(i % 4, i + 2), i + 1);
            int[] want = {i % 4, i + 2, 0, 12};
            for (int what = 0; what < 4; what++) {
                due.is("wheel(" + i + ", " + what + ")", x.wheel(i, what), want[what]);
            }
        }
        due.is("the 6th", x.add(0, 2), WheelCount.FULL);
        due.is("BAD is ahead of FULL", x.add(0, 13), WheelCount.BAD);
        WheelCount again = Due.told("plain 5 3 2;");
        again.cut(0);
        again.add(2, 7);
        due.is("a new one SHOWS 0", again.wheel(0, 2), 0);
        due.is("a new one has no BROKEN tooth", again.wheel(0, 3), 12);
    }

    private void cuts() {
        WheelCount x = Due.told("plain 5 3;plain 4 2;plain 3 1;count 8;");
        due.is("cut(4)", x.cut(4), WheelCount.BAD);
        due.is("cut(-1)", x.cut(-1), WheelCount.BAD);
        due.is("cut(3)", x.cut(3), 3);
        due.is("cut(1)", x.cut(1), 3);
        due.is("it READS", x.rule(2), 3);
        due.is("COUNT stays", x.rule(1), 8);
        due.is("cut(2)", x.cut(2), WheelCount.BAD);
        due.is("cut(0)", x.cut(0), 1);
        due.is("cut(0)", x.cut(0), 0);
        WheelCount less = Due.told("plain 2 0;plain 2 1 0;");
        due.is("both", less.rule(5), 2);
        less.cut(1);
        due.is("what is cut would not CARRY", less.rule(5), 0);
        due.is("nor is it BROKEN", less.count(5), 0);
        due.is("nor has it TEETH", less.count(4), 2);
        due.is("nor is it waited for", less.again(), 2);
        due.is("nor does it SHOW", less.runs(2, 4), 1);
        due.is("nor does it CARRY", less.runs(2, 1), 1);
    }

    private void turnsByHand() {
        WheelCount x = Due.told("plain 3 2;plain 3 2;plain 3 1;count 5;");
        due.is("turn(0) goes on and on", x.turn(0), 18);
        due.is("turn(1)", x.turn(1), 21);
        due.is("turn(2): the last one carries to none", x.turn(2), 3);
        due.is("COUNT stays", x.rule(1), 5);
        due.is("turn(3)", x.turn(3), WheelCount.BAD);
        due.is("turn(-1)", x.turn(-1), WheelCount.BAD);
    }

    private void clears() {
        WheelCount x = Due.told("plain 5 3;late 4 2 1;count 8;");
        due.is("clear()", x.clear(), 13);
        due.is("it READS", x.rule(2), 0);
        due.is("COUNT", x.rule(1), 0);
        due.is("WHEELS stay", x.rule(0), 2);
        due.is("KIND stays", x.wheel(1, 0), 3);
        due.is("BROKEN stays", x.wheel(1, 3), 1);
        due.is("clear() again", x.clear(), 0);
        WheelCount five = Due.told("plain 2 1;plain 2 1;plain 2 1;plain 2 1;plain 2 1;");
        due.is("clear() of five", five.clear(), 31);
        due.is("it READS", five.rule(2), 0);
    }
}
