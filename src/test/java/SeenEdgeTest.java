/** Boundaries of promises 26 to 30: see, forget, kinds, broken, ask. */
public final class SeenEdgeTest {
    private static final int NONE_BROKEN = 1 << 12;
    private static final String LONG = "plain 12 0;plain 12 0;plain 2 0;";
    private static final String MOST = "plain 12 11;plain 12 11;plain 12 11;plain 12 11;plain 12 11;";

    private final Due due = new Due("SeenEdgeTest");
    private final Edge rich = new Edge(due, Edge::rich);
    private final Edge full = new Edge(due, Edge::full);

    private SeenEdgeTest() {
    }

    public static void main(String[] args) {
        SeenEdgeTest test = new SeenEdgeTest();
        test.seeBad();
        test.seeFull();
        test.seeNowAndLast();
        test.seeNothingAndTheMost();
        test.forgetBad();
        test.forgetAllAndNone();
        test.kindsBad();
        test.kindsOfNothingSeen();
        test.kindsOfOne();
        test.kindsOfNone();
        test.brokenBad();
        test.brokenOfNothingSeen();
        test.brokenOrNone();
        test.allSixAreLookedAt();
        test.allElseAsItIs();
        test.askBad();
        test.askFewerThanNow();
        test.askOneOrNoneLeft();
        test.askBehindMost();
        test.askTheFirst();
        test.askOfTheLastWheel();
        test.due.close();
    }

    private static WheelCount saw(String text, int... pairs) {
        WheelCount x = Due.told(text);
        for (int i = 0; i < pairs.length; i += 2) {
            x.see(pairs[i], pairs[i + 1]);
        }
        return x;
    }

    private void seeBad() {
        rich.bounds("see(n, 0)", 0, 200, (x, v) -> x.see(v, 0));
        rich.bounds("see(0, v)", 0, 248831, (x, v) -> x.see(0, v));
        full.bounds("see(n, 0) when full", 0, 200, (x, v) -> x.see(v, 0));
    }

    private void seeFull() {
        WheelCount x = new WheelCount();
        for (int i = 1; i <= 6; i++) {
            due.is("SEEN " + i, x.see(i, i), i);
        }
        due.is("the 7th", x.see(7, 7), WheelCount.FULL);
        due.is("six are", x.count(0), 6);
        due.is("forget(5)", x.forget(5), 6);
        due.is("the 6th once more", x.see(7, 7), 6);
        full.stays("the 7th", y -> y.see(0, 0), WheelCount.FULL);
        due.is("the same for the second time", saw("plain 2 0;", 0, 0).see(0, 0), 2);
    }

    private void seeNowAndLast() {
        due.is("behind 0 it READS 0", saw(LONG, 0, 0).kinds(0), 15);
        due.is("behind 0 it READS no 1", saw(LONG, 0, 1).kinds(0), 0);
        due.is("behind 1 it READS 1", saw(LONG, 1, 1).kinds(0), 1);
        due.is("behind 200 it READS 200", saw(LONG, 200, 200).kinds(0), 1);
        due.is("behind 200 it READS no 199", saw(LONG, 200, 199).kinds(0), 0);
        due.is("behind 199 it READS 199", saw(LONG, 199, 199).kinds(0), 1);
        due.is("behind 200: any but the last tooth", saw(LONG, 200, 200).broken(0), 2047 | NONE_BROKEN);
    }

    private void seeNothingAndTheMost() {
        due.is("the most", saw(MOST, 0, 248831).kinds(4), 15);
        due.is("one less", saw(MOST, 0, 248830).kinds(4), 0);
        due.is("round to 0", saw(MOST, 1, 0).kinds(0), 1);
        due.is("more than ALL may be SEEN", saw("plain 2 0;").see(0, 248831), 1);
        due.is("more than ALL is never so", saw("plain 2 0;", 0, 2).broken(0), 0);
    }

    private void forgetBad() {
        rich.bounds("forget of three", 0, 3, (x, v) -> x.forget(v));
        full.bounds("forget of six", 0, 6, (x, v) -> x.forget(v));
        new Edge(due, WheelCount::new).bounds("forget of none", 0, 0, (x, v) -> x.forget(v));
    }

    private void forgetAllAndNone() {
        rich.stays("forget(3) of three", x -> x.forget(3), 3);
        WheelCount x = saw(LONG, 0, 0, 1, 1, 2, 99);
        due.is("kinds(0)", x.kinds(0), 0);
        due.is("forget(2)", x.forget(2), 3);
        due.is("the first ones alone", x.kinds(0), 1);
        due.is("forget(3) of two", x.forget(3), WheelCount.BAD);
        due.is("forget(0)", x.forget(0), 2);
        due.is("nothing is SEEN", x.kinds(0), 15);
        due.is("forget(0) of none", x.forget(0), 0);
    }

    private void kindsBad() {
        rich.bounds("kinds of four", 0, 3, (x, v) -> x.kinds(v));
        full.bounds("kinds of five", 0, 4, (x, v) -> x.kinds(v));
    }

    private void kindsOfNothingSeen() {
        for (int kind = 0; kind < 4; kind++) {
            WheelCount x = new WheelCount();
            x.add(kind, 7);
            due.is("any KIND", x.kinds(0), 15);
        }
    }

    /** Behind a PUSH from 0 one with 5 TEETH SHOWS 1, 2, 4, 4; back alone CARRIES. */
    private void kindsOfOne() {
        String text = "late 5 0;plain 2 0;";
        due.is("plain", saw(text, 1, 1).kinds(0), 1);
        due.is("hasty", saw(text, 1, 2).kinds(0), 2);
        due.is("back", saw(text, 1, 9).kinds(0), 4);
        due.is("late", saw(text, 1, 4).kinds(0), 8);
        due.is("back or late", saw("plain 5 0;", 1, 4).kinds(0), 12);
    }

    private void kindsOfNone() {
        Edge one = new Edge(due, () -> saw("late 5 0;plain 2 0;", 1, 3));
        one.stays("no KIND", x -> x.kinds(0), 0);
        one.stays("no KIND of the other", x -> x.kinds(1), 0);
    }

    private void brokenBad() {
        rich.bounds("broken of four", 0, 3, (x, v) -> x.broken(v));
        full.bounds("broken of five", 0, 4, (x, v) -> x.broken(v));
    }

    private void brokenOfNothingSeen() {
        for (int teeth = 2; teeth <= 12; teeth++) {
            int all = (1 << teeth) - 1 | NONE_BROKEN;
            due.is("any tooth of " + teeth, Due.told("plain " + teeth + " 0;").broken(0), all);
            due.is("any other one, too", Due.told("late " + teeth + " 1 1;").broken(0), all);
        }
    }

    private void brokenOrNone() {
        for (int teeth = 2; teeth <= 12; teeth++) {
            String text = "plain " + teeth + " " + (teeth - 1) + ";plain 2 0;";
            int last = 1 << teeth - 1;
            due.is("the last of " + teeth, saw(text, 1, 0).broken(0), last);
            due.is("not the last of " + teeth, saw(text, 1, teeth).broken(0), last - 1 | NONE_BROKEN);
            due.is("not so by any of " + teeth, saw(text, 1, 1).broken(0), 0);
        }
        due.is("BROKEN as it is", saw("plain 4 3 3;plain 2 0;", 1, 0).broken(0), 8);
        due.is("it is another one", saw("plain 4 3 3;plain 2 0;", 1, 4).broken(0), 7 | NONE_BROKEN);
    }

    private void allSixAreLookedAt() {
        for (int wrong = 0; wrong < 6; wrong++) {
            WheelCount x = Due.told(LONG);
            for (int i = 0; i < 6; i++) {
                x.see(40 * i, i == wrong ? 40 * i + 1 : 40 * i);
            }
            due.is("the one SEEN as " + wrong + " is wrong: kinds(0)", x.kinds(0), 0);
            due.is("the one SEEN as " + wrong + " is wrong: broken(0)", x.broken(0), 0);
            x.forget(wrong);
            due.is("those ahead of it are right", x.kinds(0) & 1, 1);
        }
        due.is("in any order", saw(LONG, 200, 200, 0, 0, 40, 40).kinds(0), 1);
        due.is("one against another", saw(LONG, 3, 3, 3, 4).kinds(0), 0);
    }

    /** Nothing is tried on the WHEELS themselves. */
    private void allElseAsItIs() {
        rich.stays("kinds(2)", x -> x.kinds(2), 8);
        rich.stays("broken(0)", x -> x.broken(0), 47 | NONE_BROKEN);
        full.stays("kinds(1)", x -> x.kinds(1), 2);
        WheelCount x = saw("plain 3 0;plain 3 0;", 3, 3);
        due.is("kinds(1)", x.kinds(1), 1);
        x.alter(0, 3, 2);
        due.is("kinds(1): WHEEL 0 does not CARRY", x.kinds(1), 0);
    }

    private void askBad() {
        rich.bounds("ask(w, 0) of four", 0, 3, (x, v) -> x.ask(v, 0));
        rich.bounds("ask(0, what)", 0, 1, (x, v) -> x.ask(0, v));
        full.bounds("ask(w, 1) of five", 0, 4, (x, v) -> x.ask(v, 1));
    }

    private void asks(String name, WheelCount x, int w, int which, int left) {
        due.is(name + ": ask(" + w + ", 0)", x.ask(w, 0), which);
        due.is(name + ": ask(" + w + ", 1)", x.ask(w, 1), left);
    }

    /** Of 3 teeth and none three are alike behind the first CARRY; of these none can be told. */
    private void askFewerThanNow() {
        String text = "plain 3 2;plain 3 0;";
        asks("four", Due.told(text), 0, 1, 3);
        asks("three are alike", saw(text, 1, 3), 0, WheelCount.NONE, WheelCount.NONE);
        asks("two, one is left", saw("hasty 3 0;plain 12 0;", 3, 3), 0, 2, 1);
    }

    private void askOneOrNoneLeft() {
        WheelCount one = saw("plain 3 2;plain 3 0;", 1, 0);
        due.is("one is left", one.broken(0), 4);
        asks("one is left", one, 0, WheelCount.NONE, WheelCount.NONE);
        WheelCount none = saw("plain 3 2;plain 3 0;", 1, 1);
        due.is("none is left", none.broken(0), 0);
        asks("none is left", none, 0, WheelCount.NONE, WheelCount.NONE);
    }

    private void askBehindMost() {
        asks("it CARRIES by the 200th", Due.told("plain 10 0;plain 10 0;plain 3 1;plain 2 0;"), 2, 200, 3);
        asks("by the 201st", Due.told("plain 10 9;plain 10 9;plain 3 0;plain 2 0;"), 2,
            WheelCount.NONE, WheelCount.NONE);
        asks("by the 1st", Due.told("plain 10 9;plain 10 9;plain 3 2;plain 2 0;"), 2, 1, 3);
        asks("never", Due.told("plain 10 9 9;plain 3 2;plain 2 0;"), 1, WheelCount.NONE, WheelCount.NONE);
    }

    /** From the 1st PUSH on the last tooth is told; later ones tell no more. */
    private void askTheFirst() {
        asks("1, not 2 or 3", Due.told("plain 12 11;plain 12 0;"), 0, 1, 12);
        rich.stays("it is asked alone", x -> x.ask(3, 0), WheelCount.NONE);
        full.stays("ask(4, 0)", x -> x.ask(4, 0), WheelCount.NONE);
    }

    private void askOfTheLastWheel() {
        asks("it CARRIES to none", Due.told("plain 3 2;"), 0, WheelCount.NONE, WheelCount.NONE);
        asks("the last of two", Due.told("plain 3 2;plain 3 2;"), 1, WheelCount.NONE, WheelCount.NONE);
        asks("the one ahead of it", Due.told("plain 3 2;plain 3 2;"), 0, 1, 3);
        asks("the 4th of five", Due.told("plain 2 1;plain 2 1;plain 2 1;plain 2 1;plain 2 0;"), 3, 1, 2);
        asks("the 5th", Due.told("plain 2 1;plain 2 1;plain 2 1;plain 2 1;plain 2 0;"), 4,
            WheelCount.NONE, WheelCount.NONE);
    }
}
