/** Promises 26 to 30: see, forget, kinds, broken, ask. */
public final class SeenTest {
    private static final int NONE_BROKEN = 1 << 12;

    private final Due due = new Due("SeenTest");

    private SeenTest() {
    }

    public static void main(String[] args) {
        SeenTest test = new SeenTest();
        test.sees();
        test.forgets();
        test.tells();
        test.tellsFromNow();
        test.asks();
        test.asksOfSeveral();
        test.wrongInputs();
        test.due.close();
    }

    private void sees() {
        WheelCount x = new WheelCount();
        due.is("see(201, 0)", x.see(201, 0), WheelCount.BAD);
        due.is("see(-1, 0)", x.see(-1, 0), WheelCount.BAD);
        due.is("see(0, -1)", x.see(0, -1), WheelCount.BAD);
        due.is("see(0, 248832)", x.see(0, 248832), WheelCount.BAD);
        due.is("see(200, 248831)", x.see(200, 248831), 1);
        for (int i = 2; i <= 6; i++) {
            due.is("see(0, 0)", x.see(0, 0), i);
        }
        due.is("the 7th", x.see(0, 0), WheelCount.FULL);
        due.is("BAD is ahead of FULL", x.see(201, 0), WheelCount.BAD);
        due.is("count(0)", x.count(0), 6);
    }

    private void forgets() {
        WheelCount x = Due.told("plain 3 0;plain 3 0;");
        x.see(1, 1);
        x.see(2, 2);
        x.see(3, 8);
        due.is("forget(4)", x.forget(4), WheelCount.BAD);
        due.is("forget(-1)", x.forget(-1), WheelCount.BAD);
        due.is("forget(3)", x.forget(3), 3);
        due.is("broken(0)", x.broken(0), 0);
        due.is("forget(2): the first ones stay", x.forget(2), 3);
        due.is("broken(0)", x.broken(0), 7 | NONE_BROKEN);
        due.is("kinds(0)", x.kinds(0), 1);
        due.is("forget(0)", x.forget(0), 2);
        due.is("forget(0)", x.forget(0), 0);
        due.is("forget(1)", x.forget(1), WheelCount.BAD);
    }

    private void tells() {
        WheelCount x = Due.told("plain 3 0;plain 3 0;");
        due.is("nothing SEEN: kinds(0)", x.kinds(0), 15);
        due.is("nothing SEEN: broken(0)", x.broken(0), 7 | NONE_BROKEN);
        due.is("12 TEETH", Due.told("late 12 0 5;").broken(0), 4095 | NONE_BROKEN);
        x.see(3, 3);
        due.is("kinds(0)", x.kinds(0), 13);
        due.is("kinds(1)", x.kinds(1), 1);
        due.is("broken(0)", x.broken(0), 3 | NONE_BROKEN);
        due.is("broken(1)", x.broken(1), 7 | NONE_BROKEN);
        x.see(1, 2);
        due.is("kinds(0) less", x.kinds(0), 8);
        due.is("broken(0) less", x.broken(0), 0);
        x.forget(0);
        x.see(3, 0);
        due.is("the tooth is told", x.broken(0), 4);
        due.is("and stays whole", x.wheel(0, 3), 12);
        x.see(0, 1);
        due.is("it READS 0 now", x.broken(0), 0);
    }

    /** What is SEEN is told from now on: it is not aged by pushes. */
    private void tellsFromNow() {
        WheelCount x = Due.told("plain 3 0;plain 3 0;");
        x.see(1, 1);
        due.is("kinds(0)", x.kinds(0), 1);
        x.pushes(1);
        due.is("kinds(0) a push later", x.kinds(0), 0);
        x.pushes(1);
        due.is("back goes to 1 and does not carry", x.kinds(0), 4);
        x.alter(0, 3, 2);
        due.is("BROKEN, hasty and late do not, either", x.kinds(0), 14);
        WheelCount far = Due.told("plain 10 0;plain 10 0;plain 10 0;");
        far.see(200, 200);
        due.is("behind 200", far.kinds(0), 13);
    }

    private void asks() {
        WheelCount x = Due.told("plain 3 0;plain 3 0;");
        due.is("ask(0, 0)", x.ask(0, 0), 3);
        due.is("ask(0, 1)", x.ask(0, 1), 3);
        due.is("the last WHEEL's teeth are not told", x.ask(1, 0), WheelCount.NONE);
        due.is("the last WHEEL's teeth are not told", x.ask(1, 1), WheelCount.NONE);
        x.see(3, 3);
        due.is("they do not differ", x.ask(0, 0), WheelCount.NONE);
        x.see(0, 5);
        due.is("none is left", x.ask(0, 0), WheelCount.NONE);
        due.is("none is left", x.ask(0, 1), WheelCount.NONE);
        WheelCount far = Due.told("plain 12 0;plain 12 0;plain 12 11;plain 2 0;");
        due.is("behind 144", far.ask(1, 0), 144);
        WheelCount edge = Due.told("plain 10 0;plain 10 0;plain 2 0;plain 2 0;");
        due.is("behind 200", edge.ask(2, 0), 200);
        WheelCount over = Due.told("plain 10 9;plain 10 8;plain 3 0;plain 2 0;");
        due.is("behind 211: too far", over.ask(2, 0), WheelCount.NONE);
    }

    /** A hasty WHEEL of 3 carries from 1 and 2: behind 2 pushes one tooth is told, behind 3 both. */
    private void asksOfSeveral() {
        WheelCount x = Due.told("hasty 3 0;plain 12 0;");
        due.is("broken(0)", x.broken(0), 7 | NONE_BROKEN);
        due.is("{0, none}, {1, 2}", x.ask(0, 0), 3);
        due.is("two at the worst", x.ask(0, 1), 2);
        x.see(3, 3);
        due.is("1 or 2", x.broken(0), 6);
        due.is("one more tells which", x.ask(0, 0), 2);
        due.is("one is left", x.ask(0, 1), 1);
    }

    private void wrongInputs() {
        WheelCount x = Due.told("plain 3 0;");
        for (int w = -1; w <= 1; w += 2) {
            due.is("kinds(" + w + ")", x.kinds(w), WheelCount.BAD);
            due.is("broken(" + w + ")", x.broken(w), WheelCount.BAD);
            due.is("ask(" + w + ", 0)", x.ask(w, 0), WheelCount.BAD);
        }
        due.is("ask(0, -1)", x.ask(0, -1), WheelCount.BAD);
        due.is("ask(0, 2)", x.ask(0, 2), WheelCount.BAD);
        due.is("without WHEELS", new WheelCount().kinds(0), WheelCount.BAD);
    }
}
