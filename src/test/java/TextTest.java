/** Promises 2 to 5: feed, end, text, fault. */
public final class TextTest {
    private static final String FIVE = "plain 2 0;hasty 3 1;back 4 2;late 5 3 4;plain 12 11 11;";

    private final Due due = new Due("TextTest");

    private TextTest() {
    }

    public static void main(String[] args) {
        TextTest test = new TextTest();
        test.feeds();
        test.ends();
        test.taken();
        test.tokens();
        test.misplaced();
        test.bounds();
        test.tooMany();
        test.refusedStays();
        test.takenTellsAll();
        test.due.close();
    }

    private void feeds() {
        WheelCount x = new WheelCount();
        due.is("feed(-1)", x.feed(-1), WheelCount.BAD);
        due.is("feed(128)", x.feed(128), WheelCount.BAD);
        due.is("feed(min)", x.feed(Integer.MIN_VALUE), WheelCount.BAD);
        due.is("feed(0)", x.feed(0), 1);
        due.is("feed(127)", x.feed(127), 2);
        for (int i = 3; i <= 160; i++) {
            due.is("feed(59)", x.feed(59), i);
        }
        due.is("feed beyond 160", x.feed(59), WheelCount.FULL);
        due.is("feed(128) when full", x.feed(128), WheelCount.BAD);
        due.is("count(2)", x.count(2), 160);
    }

    private void ends() {
        WheelCount x = new WheelCount();
        due.is("end(0) of none", x.end(0), 0);
        due.is("end(1) of none", x.end(1), WheelCount.BAD);
        Due.write(x, "count 5;count 6;");
        due.is("end(-1)", x.end(-1), WheelCount.BAD);
        due.is("end(17)", x.end(17), WheelCount.BAD);
        due.is("end(16)", x.end(16), 16);
        due.is("end(8)", x.end(8), 16);
        due.is("count(2)", x.count(2), 8);
        due.is("text()", x.text(), 1);
        due.is("rule(1)", x.rule(1), 5);
    }

    private void tells(String text, int answer, int fault) {
        WheelCount x = new WheelCount();
        Due.write(x, text);
        due.is("text() of '" + text + "'", x.text(), answer);
        due.is("fault() of '" + text + "'", x.fault(), fault);
        due.is("count(2) behind '" + text + "'", x.count(2), 0);
    }

    private void taken() {
        tells("", 0, 0);
        tells("   ", 0, 0);
        tells("count 0;", 1, 0);
        tells("count 99;", 1, 0);
        tells("count 07;", 1, 0);
        tells("plain10 7 9;", 1, 0);
        tells("  plain  10  7  9  ;  ", 1, 0);
        tells("plain 2 1;count 7;", 2, 0);
        tells("count 7;plain 2 1;late 12 0 11;", 3, 0);
        tells(FIVE, 5, 0);
        tells(FIVE + "count 1;", 6, 0);
    }

    private void tokens() {
        tells("PLAIN 2 0;", -10, 1);
        tells("plain !", -16, 1);
        tells("plain\t2 0;", -15, 1);
        tells("plain 2 0;" + (char) 0, -20, 1);
        tells("count 007;", -16, 1);
        tells("123;", -10, 1);
        tells("plain 2 0 111;", -20, 1);
        tells("plain 2 0 1 111;", -22, 1);
        tells("plain 2 0;" + (char) 127, -20, 1);
        tells("`", -10, 1);
        tells("{", -10, 1);
        tells("/", -10, 1);
        tells(":", -10, 1);
    }

    private void misplaced() {
        tells(";", -10, 2);
        tells("7", -10, 2);
        tells(" 7", -11, 2);
        tells("plainer 2 0;", -10, 2);
        tells("plai 2 0;", -10, 2);
        tells("slain 2 0;", -10, 2);
        tells("plaid 2 0;", -10, 2);
        tells("pack 2 0;", -10, 2);
        tells("wheel", -10, 2);
        tells("plain plain", -16, 2);
        tells("plain ;", -16, 2);
        tells("plain 2;", -17, 2);
        tells("plain 2 0 plain", -20, 2);
        tells("plain 2 0 1 plain", -22, 2);
        tells("plain 2 0 1 1;", -22, 2);
        tells("plain 2 0", -19, 2);
        tells("plain 2 0  ", -21, 2);
        tells("plain", -15, 2);
        tells("plain 2", -17, 2);
        tells("plain 2 0 1", -21, 2);
        tells("count", -15, 2);
        tells("count;", -15, 2);
        tells("count 5", -17, 2);
        tells("count 5 5;", -18, 2);
        tells("count 5;;", -18, 2);
    }

    private void bounds() {
        tells("plain 1 0;", -16, 3);
        tells("back 13 0;", -15, 3);
        tells("back 0 0;", -15, 3);
        tells("plain 2 2;", -18, 3);
        tells("plain 12 12;", -19, 3);
        tells("plain 2 1 2;", -20, 3);
        tells("plain 12 11 12;", -22, 3);
        tells("plain 1 !", -16, 3);
        tells("plain 4 4 !", -18, 3);
        tells("plain 4 3 4 !", -20, 3);
    }

    private void tooMany() {
        tells("count 5;plain 2 0;count", -28, 4);
        tells("count 5;count 123;", -18, 4);
        tells(FIVE + "late", -10 - FIVE.length(), 5);
        tells(FIVE + " plain 1 1;", -11 - FIVE.length(), 5);
        tells(FIVE + "count 5;count 5;", -18 - FIVE.length(), 4);
    }

    private void refusedStays() {
        WheelCount x = Due.told("plain 10 7 9;hasty 6 4;count 37;");
        x.see(0, 47);
        x.keep(1);
        String before = Due.state(x);
        Due.write(x, "late 5 0;count 9;late 5");
        due.is("text() refused", x.text(), -33);
        due.is("fault()", x.fault(), 2);
        due.holds("all else stays", before.equals(Due.state(x)));
        due.is("back(1)", x.back(1), 37);
    }

    private void takenTellsAll() {
        WheelCount x = Due.told("plain 10 7 9;hasty 6 4;count 37;");
        x.see(0, 47);
        x.keep(0);
        x.keep(1);
        x.sheet(0, 0, 3);
        x.read(0, 1, 0, 1);
        Due.write(x, "!");
        due.is("text()", x.text(), -10);
        due.is("fault()", x.fault(), 1);
        Due.write(x, "late 5 4 2;");
        due.is("text()", x.text(), 1);
        due.is("fault() is gone", x.fault(), 0);
        due.is("COUNT that is not told", x.rule(1), 0);
        int[] wheel = {3, 5, 4, 2, 3};
        for (int what = 0; what < 5; what++) {
            due.is("wheel(0, " + what + ")", x.wheel(0, what), wheel[what]);
        }
        due.is("WHEELS", x.rule(0), 1);
        due.is("SEEN", x.count(0), 0);
        due.is("IMAGES", x.count(1), 0);
        due.is("back(0)", x.back(0), WheelCount.STATE);
        due.is("SHEET 0 stays", x.count(3), 3);
        due.is("torn() stays", x.torn(), 3);
        due.is("text() of nothing", x.text(), 0);
        due.is("no WHEELS", x.rule(0), 0);
    }
}
