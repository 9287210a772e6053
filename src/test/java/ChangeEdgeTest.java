/** Boundaries of promises 6 to 12: rule, wheel, alter, add, cut, turn, clear. */
public final class ChangeEdgeTest {
    private final Due due = new Due("ChangeEdgeTest");
    private final Edge rich = new Edge(due, Edge::rich);
    private final Edge full = new Edge(due, Edge::full);

    private ChangeEdgeTest() {
    }

    public static void main(String[] args) {
        ChangeEdgeTest test = new ChangeEdgeTest();
        test.ruleBad();
        test.rulesOfFull();
        test.wheelBad();
        test.alterBad();
        test.alterTeethAndDigit();
        test.alterTeethAndBroken();
        test.alterTeethWithoutBroken();
        test.alterDigitThatItHasNot();
        test.alterBrokenThatItHasNot();
        test.alterKind();
        test.alterOneWheelAlone();
        test.addBad();
        test.addFull();
        test.addBehindACut();
        test.cutBad();
        test.cutAllAndNone();
        test.turnBad();
        test.turnOfTheLast();
        test.turnLeavesThoseAhead();
        test.clearOfAll();
        test.clearOfNone();
        test.due.close();
    }

    private void ruleBad() {
        rich.bounds("rule", 0, 5, (x, v) -> x.rule(v));
        int[] want = {4, 40, 88, 360, 48, 11};
        for (int i = 0; i < want.length; i++) {
            int what = i;
            rich.stays("rule(" + what + ")", x -> x.rule(what), want[what]);
        }
    }

    /** 9, 4, 0, 0, 11 of 12 TEETH each; the last one would CARRY, but for its BROKEN tooth. */
    private void rulesOfFull() {
        int[] want = {5, 99, 9 + 12 * 4 + 20736 * 11, 248832, 228153 - 99, 4};
        for (int i = 0; i < want.length; i++) {
            int what = i;
            full.stays("rule(" + what + ") of five", x -> x.rule(what), want[what]);
        }
    }

    private void wheelBad() {
        rich.bounds("wheel(w, 0) of four", 0, 3, (x, v) -> x.wheel(v, 0));
        rich.bounds("wheel(w, 4) of four", 0, 3, (x, v) -> x.wheel(v, 4));
        rich.bounds("wheel(0, what)", 0, 4, (x, v) -> x.wheel(0, v));
        full.bounds("wheel(w, 0) of five", 0, 4, (x, v) -> x.wheel(v, 0));
        int[] first = {1, 6, 4, 5, 0};
        int[] last = {2, 3, 0, 12, 2};
        for (int i = 0; i < 5; i++) {
            int what = i;
            rich.stays("wheel(0, " + what + ")", x -> x.wheel(0, what), first[what]);
            rich.stays("wheel(3, " + what + ")", x -> x.wheel(3, what), last[what]);
        }
    }

    private void alterBad() {
        for (int i = 0; i < 4; i++) {
            int what = i;
            rich.bounds("alter(w, " + what + ", 3) of four", 0, 3, (x, v) -> x.alter(v, what, 3));
        }
        rich.bounds("alter(0, what, 2)", 0, 3, (x, v) -> x.alter(0, v, 2));
        rich.bounds("alter(0, 0, v)", 0, 3, (x, v) -> x.alter(0, 0, v));
        rich.bounds("alter(0, 1, v)", 2, 12, (x, v) -> x.alter(0, 1, v));
        rich.bounds("alter(0, 2, v)", 0, 11, (x, v) -> x.alter(0, 2, v));
        rich.bounds("alter(0, 3, v)", 0, 12, (x, v) -> x.alter(0, 3, v));
        full.bounds("alter(w, 0, 0) of five", 0, 4, (x, v) -> x.alter(v, 0, 0));
        full.bounds("alter(4, 2, v) of 12 TEETH", 0, 11, (x, v) -> x.alter(4, 2, v));
    }

    private void alterTeethAndDigit() {
        for (int digit = 0; digit <= 10; digit++) {
            String text = "plain 12 " + digit + ";";
            Edge one = new Edge(due, () -> Due.told(text));
            for (int v = 2; v <= digit; v++) {
                int teeth = v;
                one.stays("TEETH " + v + " at DIGIT " + digit, x -> x.alter(0, 1, teeth), WheelCount.STATE);
            }
            WheelCount x = Due.told(text);
            int least = Math.max(2, digit + 1);
            due.is("TEETH " + least + " at DIGIT " + digit, x.alter(0, 1, least), 12);
            due.is("it has them", x.wheel(0, 1), least);
            due.is("what it was", x.alter(0, 1, 12), least);
        }
        new Edge(due, () -> Due.told("plain 12 11;")).stays("TEETH 11 at DIGIT 11", x -> x.alter(0, 1, 11), -2);
        new Edge(due, () -> Due.told("plain 12 11;")).stays("TEETH 12 as it is", x -> x.alter(0, 1, 12), 12);
    }

    private void alterTeethAndBroken() {
        for (int broken = 0; broken <= 10; broken++) {
            String text = "plain 12 0 " + broken + ";";
            Edge one = new Edge(due, () -> Due.told(text));
            for (int v = 2; v <= broken; v++) {
                int teeth = v;
                one.stays("TEETH " + v + ", BROKEN " + broken, x -> x.alter(0, 1, teeth), WheelCount.STATE);
            }
            WheelCount x = Due.told(text);
            int least = Math.max(2, broken + 1);
            due.is("TEETH " + least + ", BROKEN " + broken, x.alter(0, 1, least), 12);
            due.is("it stays BROKEN", x.wheel(0, 3), broken);
        }
        new Edge(due, () -> Due.told("plain 12 0 11;")).stays("TEETH 11, BROKEN 11", x -> x.alter(0, 1, 11), -2);
        Edge both = new Edge(due, () -> Due.told("plain 9 3 5;"));
        both.stays("above its DIGIT, not its BROKEN tooth", x -> x.alter(0, 1, 5), WheelCount.STATE);
        due.is("above both", Due.told("plain 9 3 5;").alter(0, 1, 6), 9);
        both = new Edge(due, () -> Due.told("plain 9 5 3;"));
        both.stays("above its BROKEN tooth, not its DIGIT", x -> x.alter(0, 1, 5), WheelCount.STATE);
        due.is("above both", Due.told("plain 9 5 3;").alter(0, 1, 6), 9);
    }

    private void alterTeethWithoutBroken() {
        WheelCount x = Due.told("plain 6 1 5;");
        due.is("it is BROKEN", x.alter(0, 1, 2), WheelCount.STATE);
        due.is("it is mended", x.alter(0, 3, 12), 5);
        due.is("TEETH 2 then", x.alter(0, 1, 2), 6);
        due.is("TEETH 12 then", x.alter(0, 1, 12), 2);
        due.is("it has no BROKEN tooth", x.wheel(0, 3), 12);
    }

    private void alterDigitThatItHasNot() {
        for (int i = 2; i <= 12; i++) {
            int teeth = i;
            String text = "late " + teeth + " 1;";
            if (teeth < 12) {
                Edge one = new Edge(due, () -> Due.told(text));
                one.stays("DIGIT " + teeth + " of " + teeth, x -> x.alter(0, 2, teeth), WheelCount.STATE);
                one.stays("DIGIT 11 of " + teeth, x -> x.alter(0, 2, 11), WheelCount.STATE);
            }
            WheelCount x = Due.told(text);
            due.is("the last DIGIT of " + teeth, x.alter(0, 2, teeth - 1), 1);
            due.is("it SHOWS it", x.wheel(0, 2), teeth - 1);
            due.is("DIGIT 0 of " + teeth, x.alter(0, 2, 0), teeth - 1);
            due.is("it SHOWS 0", x.wheel(0, 2), 0);
        }
    }

    private void alterBrokenThatItHasNot() {
        for (int i = 2; i <= 12; i++) {
            int teeth = i;
            String text = "late " + teeth + " 1 1;";
            if (teeth < 12) {
                Edge one = new Edge(due, () -> Due.told(text));
                one.stays("tooth " + teeth + " of " + teeth, x -> x.alter(0, 3, teeth), WheelCount.STATE);
                one.stays("tooth 11 of " + teeth, x -> x.alter(0, 3, 11), WheelCount.STATE);
            }
            WheelCount x = Due.told(text);
            due.is("the last tooth of " + teeth, x.alter(0, 3, teeth - 1), 1);
            due.is("tooth 0 of " + teeth, x.alter(0, 3, 0), teeth - 1);
            due.is("none of " + teeth, x.alter(0, 3, 12), 0);
            due.is("it has none", x.alter(0, 3, 12), 12);
        }
    }

    private void alterKind() {
        for (int kind = 0; kind < 4; kind++) {
            WheelCount x = Due.told("plain 4 3 3;");
            due.is("KIND " + kind, x.alter(0, 0, kind), 0);
            due.is("it is of KIND " + kind, x.wheel(0, 0), kind);
            due.is("what it was", x.alter(0, 0, 0), kind);
        }
    }

    private void alterOneWheelAlone() {
        WheelCount x = Due.told("plain 4 1 2;plain 4 1 2;plain 4 1 2;");
        x.alter(1, 0, 3);
        x.alter(1, 1, 9);
        x.alter(1, 2, 8);
        x.alter(1, 3, 7);
        int[][] want = {{0, 4, 1, 2}, {3, 9, 8, 7}, {0, 4, 1, 2}};
        for (int w = 0; w < 3; w++) {
            for (int what = 0; what < 4; what++) {
                due.is("wheel(" + w + ", " + what + ")", x.wheel(w, what), want[w][what]);
            }
        }
    }

    private void addBad() {
        rich.bounds("add(kind, 2)", 0, 3, (x, v) -> x.add(v, 2));
        rich.bounds("add(0, teeth)", 2, 12, (x, v) -> x.add(0, v));
        full.bounds("add(kind, 2) when full", 0, 3, (x, v) -> x.add(v, 2));
    }

    private void addFull() {
        WheelCount x = new WheelCount();
        for (int i = 1; i <= 5; i++) {
            due.is("the WHEEL " + i, x.add(3, 12), i);
        }
        due.is("the 6th", x.add(3, 12), WheelCount.FULL);
        due.is("there are five", x.rule(0), 5);
        due.is("cut(4)", x.cut(4), 5);
        due.is("the 5th once more", x.add(1, 2), 5);
        full.stays("the 6th", y -> y.add(0, 2), WheelCount.FULL);
        due.is("the 5th behind four", Edge.rich().add(0, 2), 5);
    }

    private void addBehindACut() {
        WheelCount x = Due.told("plain 5 3;late 9 8 7;");
        x.cut(1);
        due.is("add(2, 3)", x.add(2, 3), 2);
        int[] want = {2, 3, 0, 12, 2};
        for (int what = 0; what < 5; what++) {
            due.is("a new one, wheel(1, " + what + ")", x.wheel(1, what), want[what]);
        }
        due.is("the first one stays", x.wheel(0, 2), 3);
    }

    private void cutBad() {
        rich.bounds("cut of four", 0, 4, (x, v) -> x.cut(v));
        full.bounds("cut of five", 0, 5, (x, v) -> x.cut(v));
        new Edge(due, WheelCount::new).bounds("cut of none", 0, 0, (x, v) -> x.cut(v));
    }

    private void cutAllAndNone() {
        rich.stays("cut(4) of four", x -> x.cut(4), 4);
        WheelCount x = Edge.rich();
        due.is("cut(3)", x.cut(3), 4);
        due.is("WHEEL 3 is gone", x.wheel(3, 0), WheelCount.BAD);
        due.is("WHEEL 2 is not", x.wheel(2, 0), 3);
        due.is("ALL", x.rule(3), 120);
        due.is("cut(0)", x.cut(0), 3);
        due.is("none is left", x.rule(0), 0);
        due.is("it READS", x.rule(2), 0);
        due.is("COUNT stays", x.rule(1), 40);
        due.is("SEEN stays", x.count(0), 3);
        due.is("IMAGES stay", x.count(1), 2);
    }

    private void turnBad() {
        rich.bounds("turn of four", 0, 3, (x, v) -> x.turn(v));
        full.bounds("turn of five", 0, 4, (x, v) -> x.turn(v));
    }

    private void turnOfTheLast() {
        WheelCount x = Due.told("plain 3 1;plain 4 3;count 5;");
        due.is("turn(1): it CARRIES to none", x.turn(1), 1);
        due.is("COUNT stays", x.rule(1), 5);
        due.is("WHEELS stay two", x.rule(0), 2);
    }

    private void turnLeavesThoseAhead() {
        WheelCount x = Due.told("plain 3 2;plain 4 3;plain 5 4;plain 2 0;count 5;");
        due.is("turn(1) goes on to the last", x.turn(1), 2 + 60);
        due.is("turn(0) does not go on", x.turn(0), 3 + 60);
        due.is("COUNT stays", x.rule(1), 5);
        WheelCount worn = Due.told("plain 3 2 2;plain 4 3;count 5;");
        due.is("a BROKEN tooth", worn.turn(0), 9);
    }

    private void clearOfAll() {
        WheelCount x = Edge.full();
        int was = x.rule(2);
        due.is("clear()", x.clear(), was);
        due.is("it READS", x.rule(2), 0);
        due.is("COUNT", x.rule(1), 0);
        due.is("ERROR", x.rule(4), 0);
        int[] broken = {10, 2, 5, 0, 11};
        int[] kinds = {0, 1, 2, 3, 0};
        for (int w = 0; w < 5; w++) {
            due.is("wheel(" + w + ", 2)", x.wheel(w, 2), 0);
            due.is("KIND stays", x.wheel(w, 0), kinds[w]);
            due.is("TEETH stay", x.wheel(w, 1), 12);
            due.is("BROKEN stays", x.wheel(w, 3), broken[w]);
        }
        due.is("SEEN stays", x.count(0), 6);
        due.is("IMAGES stay", x.count(1), 2);
        due.is("THE TAPE stays", x.count(2), 160);
        due.is("clear() once more", x.clear(), 0);
    }

    private void clearOfNone() {
        WheelCount x = new WheelCount();
        x.pushes(7);
        due.is("clear() without WHEELS", x.clear(), 0);
        due.is("COUNT", x.rule(1), 0);
    }
}
