/** Boundaries of promises 2 to 5, feed, end, text, fault, and of the terms that tell of THE TAPE. */
public final class TextEdgeTest {
    private static final String FOUR = "plain 2 0;hasty 3 1;back 4 2;late 5 3 4;";
    private static final String FIVE = FOUR + "plain 12 11 11;";
    private static final String[] KINDS = {"plain", "hasty", "back", "late"};

    private final Due due = new Due("TextEdgeTest");

    private TextEdgeTest() {
    }

    public static void main(String[] args) {
        TextEdgeTest test = new TextEdgeTest();
        test.feedTakesBytes();
        test.feedFull();
        test.endKeepsTheFirst();
        test.endOfFullAndEmpty();
        test.wholeTapeIsRead();
        test.emptyText();
        test.namesFromAToZ();
        test.namesAsLongAsMayBe();
        test.numbersOfOneOrTwoFigures();
        test.blanksBetween();
        test.oneSemicolon();
        test.otherBytes();
        test.teethInBounds();
        test.digitBelowTeeth();
        test.brokenBelowTeeth();
        test.countInBounds();
        test.endOfTheTape();
        test.nameThatBeginsNoLine();
        test.tokenThatCanNotStandThere();
        test.countForTheSecondTime();
        test.sixthWheel();
        test.firstFaultMet();
        test.placesFromZero();
        test.refusedTextStays();
        test.takenTextTellsAll();
        test.tapeIsEmptyThen();
        test.faultOfTheLatest();
        test.due.close();
    }

    private WheelCount tells(String text, int answer, int fault) {
        WheelCount x = new WheelCount();
        Due.write(x, text);
        due.is("text() of '" + text + "'", x.text(), answer);
        due.is("fault() of '" + text + "'", x.fault(), fault);
        return x;
    }

    private static String blanks(int n) {
        return " ".repeat(n);
    }

    private void feedTakesBytes() {
        new Edge(due, Edge::rich).bounds("feed", 0, 127, (x, v) -> x.feed(v));
        WheelCount x = new WheelCount();
        due.is("feed(0)", x.feed(0), 1);
        due.is("feed(127)", x.feed(127), 2);
    }

    private void feedFull() {
        WheelCount x = new WheelCount();
        Due.write(x, blanks(158));
        due.is("the 159th", x.feed(' '), 159);
        due.is("the 160th", x.feed(' '), 160);
        due.is("the 161st", x.feed(' '), WheelCount.FULL);
        due.is("160 bytes", x.count(2), 160);
        due.is("end(159)", x.end(159), 160);
        due.is("the 160th once more", x.feed(' '), 160);
        due.is("FULL once more", x.feed(' '), WheelCount.FULL);
        new Edge(due, Edge::full).stays("feed of a full TAPE", y -> y.feed(';'), WheelCount.FULL);
    }

    private void endKeepsTheFirst() {
        Edge rich = new Edge(due, Edge::rich);
        rich.bounds("end of six", 0, 6, (x, v) -> x.end(v));
        rich.stays("end(6) of six", x -> x.end(6), 6);
        WheelCount x = new WheelCount();
        Due.write(x, "count 5;count 6;");
        due.is("end(8)", x.end(8), 16);
        due.is("end(9) of 8", x.end(9), WheelCount.BAD);
        due.is("its first ones", x.text(), 1);
        due.is("its first ones", x.rule(1), 5);
    }

    private void endOfFullAndEmpty() {
        new Edge(due, WheelCount::new).bounds("end of an empty TAPE", 0, 0, (x, v) -> x.end(v));
        new Edge(due, Edge::full).bounds("end of a full TAPE", 0, 160, (x, v) -> x.end(v));
        WheelCount x = Edge.full();
        due.is("end(0)", x.end(0), 160);
        due.is("none is left", x.count(2), 0);
        due.is("the first one", x.feed(';'), 1);
    }

    private void wholeTapeIsRead() {
        tells(blanks(160), 0, 0);
        tells(blanks(159) + ";", -169, 2);
        tells(blanks(152) + "count 9;", 1, 0);
        tells(blanks(153) + "count 9", -170, 2);
        tells(blanks(155) + "count", -170, 2);
        tells(blanks(155) + "plaid", -165, 2);
        tells(blanks(152) + "count123", -167, 1);
        tells("count 9;" + blanks(151) + "!", -169, 1);
        due.is("a byte of the text before is not read", secondTextIsShorter(), 1);
    }

    private static int secondTextIsShorter() {
        WheelCount x = new WheelCount();
        Due.write(x, "count 55;");
        x.text();
        Due.write(x, "count 7;");
        return x.text();
    }

    private void emptyText() {
        WheelCount x = Edge.rich();
        x.end(0);
        due.is("no lines", x.text(), 0);
        due.is("no fault", x.fault(), 0);
        due.is("no WHEELS", x.rule(0), 0);
        due.is("COUNT", x.rule(1), 0);
        due.is("nothing SEEN", x.count(0), 0);
        due.is("no IMAGES", x.count(1), 0);
        tells("", 0, 0);
        tells(" ", 0, 0);
        tells(";", -10, 2);
    }

    private void namesFromAToZ() {
        tells("a", -10, 2);
        tells("z", -10, 2);
        tells("`", -10, 1);
        tells("{", -10, 1);
        tells("A", -10, 1);
        tells("Z", -10, 1);
        tells("plainz 2 0;", -10, 2);
        tells("plain{2 0;", -15, 1);
        tells("plaina 2 0;", -10, 2);
        tells("plain`2 0;", -15, 1);
    }

    private void namesAsLongAsMayBe() {
        for (String kind : KINDS) {
            tells(kind + " 2 0;", 1, 0);
            tells(kind.substring(0, kind.length() - 1) + " 2 0;", -10, 2);
            tells(kind + "s 2 0;", -10, 2);
            tells(kind.substring(1) + " 2 0;", -10, 2);
            tells(kind + kind + " 2 0;", -10, 2);
            tells("x" + kind.substring(1) + " 2 0;", -10, 2);
            tells(kind.substring(0, kind.length() - 1) + "x 2 0;", -10, 2);
            tells(kind.charAt(0) + " " + kind.substring(1) + " 2 0;", -10, 2);
        }
        tells("count 1;", 1, 0);
        tells("coun 1;", -10, 2);
        tells("counts 1;", -10, 2);
    }

    private void numbersOfOneOrTwoFigures() {
        tells("count 5;", 1, 0);
        tells("count 55;", 1, 0);
        tells("count 555;", -16, 1);
        tells("count 005;", -16, 1);
        due.is("05 is 5", tells("count 05;", 1, 0).rule(1), 5);
        due.is("00 is 0", tells("count 00;", 1, 0).rule(1), 0);
        due.is("02 TEETH", tells("plain 02 01 00;", 1, 0).wheel(0, 1), 2);
        tells("plain 002 0;", -16, 1);
        tells("plain 2 001;", -18, 1);
        tells("plain 2 1 000;", -20, 1);
        tells("plain 2 1 0 000;", -22, 1);
        tells("555", -10, 1);
        tells("55", -10, 2);
        tells("count 0;", 1, 0);
        tells("count 9;", 1, 0);
        tells("count /;", -16, 1);
        tells("count :;", -16, 1);
        tells("count 5/;", -17, 1);
        tells("count 5:;", -17, 1);
        tells("count 99999999999999999999;", -16, 1);
    }

    private void blanksBetween() {
        tells("plain2 1 0;late3 2;", 2, 0);
        tells("  plain   2   1   0   ;   ", 1, 0);
        tells("plain 10 79;", -19, 3);
        tells("plain 107 9;", -16, 1);
        tells("plain10 7 9;", 1, 0);
        tells("plain 2 1count 5;", -19, 2);
        tells("pl ain 2 1;", -10, 2);
        tells("count 5 5;", -18, 2);
    }

    private void oneSemicolon() {
        tells("count 5;", 1, 0);
        tells("count 5;;", -18, 2);
        tells("count 5 ; ;", -20, 2);
        tells(";count 5;", -10, 2);
        tells("count;5;", -15, 2);
    }

    private void otherBytes() {
        int[] bytes = {0, 9, 10, 13, 31, 33, 47, 58, 60, 64, 91, 96, 123, 127};
        for (int b : bytes) {
            tells((char) b + "count 5;", -10, 1);
            tells("count" + (char) b + "5;", -15, 1);
            tells("count 5;" + (char) b, -18, 1);
        }
        tells((char) 32 + "count" + (char) 32 + "5;" + (char) 32, 1, 0);
    }

    private void teethInBounds() {
        for (String kind : KINDS) {
            int place = -11 - kind.length();
            tells(kind + " 0 0;", place, 3);
            tells(kind + " 1 0;", place, 3);
            due.is("2 TEETH", tells(kind + " 2 0;", 1, 0).wheel(0, 1), 2);
            due.is("12 TEETH", tells(kind + " 12 0;", 1, 0).wheel(0, 1), 12);
            tells(kind + " 13 0;", place, 3);
            tells(kind + " 99 0;", place, 3);
        }
    }

    private void digitBelowTeeth() {
        for (int teeth = 2; teeth <= 12; teeth++) {
            String head = "back " + teeth + " ";
            due.is("DIGIT", tells(head + "0;", 1, 0).wheel(0, 2), 0);
            due.is("DIGIT", tells(head + (teeth - 1) + ";", 1, 0).wheel(0, 2), teeth - 1);
            tells(head + teeth + ";", -10 - head.length(), 3);
            tells(head + "99;", -10 - head.length(), 3);
        }
    }

    private void brokenBelowTeeth() {
        for (int teeth = 2; teeth <= 12; teeth++) {
            String head = "late " + teeth + " 1 ";
            due.is("BROKEN", tells(head + "0;", 1, 0).wheel(0, 3), 0);
            due.is("BROKEN", tells(head + (teeth - 1) + ";", 1, 0).wheel(0, 3), teeth - 1);
            tells(head + teeth + ";", -10 - head.length(), 3);
            tells(head + "99;", -10 - head.length(), 3);
            due.is("none, if it is not told", tells(head + ";", 1, 0).wheel(0, 3), 12);
        }
        tells("plain 12 1 12;", -21, 3);
    }

    private void countInBounds() {
        due.is("COUNT 0", tells("count 0;", 1, 0).rule(1), 0);
        due.is("COUNT 99", tells("count 99;", 1, 0).rule(1), 99);
        tells("count 100;", -16, 1);
        due.is("COUNT that is not told", tells("plain 2 1;", 1, 0).rule(1), 0);
    }

    /** A line that is cut off anywhere: the place is the length, blanks behind it too. */
    private void endOfTheTape() {
        String[] cut = {"plain", "plain 2", "plain 2 0", "plain 2 0 1", "count", "count 5", "count 5;late"};
        for (String text : cut) {
            tells(text, -10 - text.length(), 2);
            tells(text + " ", -11 - text.length(), 2);
            tells(text + "   ", -13 - text.length(), 2);
        }
        tells("plain 2 0;", 1, 0);
        tells("plain 2 0 1;", 1, 0);
        tells("count 5;", 1, 0);
    }

    private void nameThatBeginsNoLine() {
        tells("wheel 2 0;", -10, 2);
        tells("count 5;wheel 2 0;", -18, 2);
        tells("count 5; wheel 2 0;", -19, 2);
        tells("count 5;late 2 0;", 2, 0);
    }

    private void tokenThatCanNotStandThere() {
        tells("5;", -10, 2);
        tells("plain late;", -16, 2);
        tells("plain count;", -16, 2);
        tells("plain ;", -16, 2);
        tells("plain 2 late;", -18, 2);
        tells("plain 2 ;", -18, 2);
        tells("plain 2 0 late;", -20, 2);
        tells("plain 2 0 1 late;", -22, 2);
        tells("plain 2 0 1 0;", -22, 2);
        tells("count late;", -16, 2);
        tells("count ;", -16, 2);
        tells("count 5 late;", -18, 2);
        tells("count 5 5;", -18, 2);
    }

    private void countForTheSecondTime() {
        tells("count 5;plain 2 0;", 2, 0);
        tells("plain 2 0;count 5;", 2, 0);
        tells("count 5;count 5;", -18, 4);
        tells("count 5; count 5;", -19, 4);
        tells("count 5;plain 2 0;count 5;", -28, 4);
        tells("count 0;count 0;", -18, 4);
        tells("count 5;count", -18, 4);
        tells("count 5;count 5;count 5;", -18, 4);
    }

    private void sixthWheel() {
        due.is("four", tells(FOUR, 4, 0).rule(0), 4);
        due.is("five", tells(FIVE, 5, 0).rule(0), 5);
        due.is("five and COUNT", tells(FIVE + "count 5;", 6, 0).rule(1), 5);
        for (String kind : KINDS) {
            tells(FIVE + kind + " 2 0;", -10 - FIVE.length(), 5);
            tells(FIVE + " count 5; " + kind + " 2 0;", -20 - FIVE.length(), 5);
        }
        tells(FIVE + "wheel 2 0;", -10 - FIVE.length(), 2);
    }

    /** A TOKEN is read when the one before has been taken, so no fault behind another one is met. */
    private void firstFaultMet() {
        tells("plain 13 !", -16, 3);
        tells("plain 2 !", -18, 1);
        tells("plain 2 2 !", -18, 3);
        tells("plain 2 1 2 !", -20, 3);
        tells("plain 13 13;", -16, 3);
        tells("plain 2 9 9;", -18, 3);
        tells("wheel !", -10, 2);
        tells("plain late 123", -16, 2);
        tells("count 5 count 5;", -18, 2);
        tells("count 5;count !", -18, 4);
        tells("count 5;count 123;", -18, 4);
        tells(FIVE + "late !", -10 - FIVE.length(), 5);
        tells(FIVE + "late 99 99;", -10 - FIVE.length(), 5);
        tells(FIVE + "count 5;late 2 0;count 6;", -18 - FIVE.length(), 5);
        tells(FIVE + "count 5;count 6;late 2 0;", -18 - FIVE.length(), 4);
        tells("count 123 !", -16, 1);
        tells("count 12!", -18, 1);
    }

    private void placesFromZero() {
        tells("!", -10, 1);
        tells(" !", -11, 1);
        tells(blanks(159) + "!", -169, 1);
        tells("5", -10, 2);
        tells(" 5", -11, 2);
    }

    private void refusedTextStays() {
        String[] refused = {"!", ";", "plain 1 0;", "count 5;count 6;", FIVE + "late 2 0;",
            "late 5 0;count 9;late 5", "plain 2 0;count 77"};
        for (String text : refused) {
            Edge.Maker written = () -> {
                WheelCount x = Edge.rich();
                x.end(0);
                return x;
            };
            WheelCount twin = written.make();
            WheelCount x = written.make();
            Due.write(x, text);
            due.holds("refused: '" + text + "'", x.text() <= -10);
            due.holds("all stays behind '" + text + "'", Due.state(x).equals(Due.state(twin)));
            due.is("THE TAPE is empty behind '" + text + "'", x.count(2), 0);
            for (int k = 0; k < 2; k++) {
                due.is("IMAGE " + k + " stays", x.back(k), twin.back(k));
                due.holds("IMAGE " + k + " stays", Due.row(x).equals(Due.row(twin)));
            }
        }
    }

    private void takenTextTellsAll() {
        WheelCount x = Edge.full();
        due.is("text()", x.text(), 1);
        int[] rules = {1, 0, 4, 5, 4, 1};
        int[] wheel = {3, 5, 4, 12, 3};
        for (int what = 0; what < 6; what++) {
            due.is("rule(" + what + ")", x.rule(what), rules[what]);
        }
        for (int what = 0; what < 5; what++) {
            due.is("wheel(0, " + what + ")", x.wheel(0, what), wheel[what]);
        }
        due.is("no WHEEL is left", x.wheel(1, 0), WheelCount.BAD);
        due.is("nothing is SEEN", x.count(0), 0);
        due.is("so any BROKEN tooth may be", x.broken(0), 4096 + 31);
        due.is("IMAGES are gone", x.count(1), 0);
        due.is("IMAGE 0", x.back(0), WheelCount.STATE);
        due.is("IMAGE 1", x.back(1), WheelCount.STATE);
        due.is("SHEETS are not told: they stay", x.count(3), 40);
    }

    private void tapeIsEmptyThen() {
        WheelCount x = tells("count 5;", 1, 0);
        due.is("taken: empty", x.count(2), 0);
        due.is("taken: end(1)", x.end(1), WheelCount.BAD);
        due.is("taken: the first byte", x.feed('!'), 1);
        due.is("refused", x.text(), -10);
        due.is("refused: empty", x.count(2), 0);
        due.is("refused: the first byte", x.feed(' '), 1);
        WheelCount full = Edge.full();
        full.text();
        due.is("a full one is empty, too", full.feed(' '), 1);
    }

    private void faultOfTheLatest() {
        WheelCount x = new WheelCount();
        due.is("at first", x.fault(), 0);
        String[] texts = {"!", ";", "plain 1", "count 1;count", FIVE + "late", "count 1;"};
        int[] faults = {1, 2, 3, 4, 5, 0};
        for (int i = 0; i < texts.length; i++) {
            Due.write(x, texts[i]);
            due.is("ahead of text()", x.fault(), i == 0 ? 0 : faults[i - 1]);
            x.text();
            due.is("fault() of '" + texts[i] + "'", x.fault(), faults[i]);
            due.is("it stays", x.fault(), faults[i]);
        }
    }
}
