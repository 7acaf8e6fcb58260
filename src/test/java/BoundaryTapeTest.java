/** The boundary cases of promises 1 to 3: what is on the tape, and which reads are refused. */
public final class BoundaryTapeTest {
    private static final String TWO = "undo 7\nbraid 3 1 -2\n";
    private static final String SEEN_OF_TWO = "fault 0 -1; lines (3 at 0: 7) (2 at 7: 3 1 -2); printed ";
    private final Check check = new Check();

    public static void main(String[] args) {
        BoundaryTapeTest test = new BoundaryTapeTest();
        test.aNewObject();
        test.atMost512Calls();
        test.fourOfEachNumber();
        test.feedUpToFourThousand();
        test.feedWithRoomForNineteen();
        test.feedOntoAFullTape();
        test.readOfTooFew();
        test.readOfTooMany();
        test.readOfNothing();
        test.readOfFourThousand();
        test.theTapeIsEmptyThen();
        test.theFirstBytesAlone();
        test.aFaultLeavesNoLines();
        test.check.end();
    }

    /** "Nothing on the tape, no lines, nothing printed." */
    private void aNewObject() {
        check.due("a new object", new Desk().seen(), "fault -1 -1; lines; printed ");
        check.due("read(1) of a new object", new Desk().read(1), -2);
        check.due("read(0) of a new object", new Desk().read(0), 0);
        check.due("wipe of a new object", new Desk().wipe(false), 0);
        check.due("print(0) of a new object", new Desk().print(0), -1);
        check.due("number(0, 0) of a new object", new Desk().number(0, 0), 0);
    }

    /** "An object is used for at most 512 calls": the last of them is answered as the others. */
    private void atMost512Calls() {
        Desk x = new Desk();
        x.readText("show");
        for (int there = 5; there <= 5 * 300; there += 5) {
            check.due("print(0)", x.print(0), there);
        }
        for (int i = 0; i < 208; i++) {
            check.due("printed", x.printed(i), "show\n".charAt(i % 5));
        }
        check.due("wipe(true)", x.wipe(true), 1500);
        check.due("the calls so far", x.calls(), 511);
        check.due("the 512th call", x.read(64 * 5), 64);
    }

    /** "four of each number, the highest first": also of the least and the greatest number. */
    private void fourOfEachNumber() {
        int spaces = 0x20202020;
        firstBadByte("the least number", 4, spaces, Integer.MIN_VALUE, spaces, spaces, spaces);
        firstBadByte("the greatest number", 8, spaces, spaces, Integer.MAX_VALUE, spaces, spaces);
        firstBadByte("-1", 12, spaces, spaces, spaces, -1, spaces);
        firstBadByte("0", 16, spaces, spaces, spaces, spaces, 0);
        firstBadByte("a lowest byte above 127", 19, spaces, spaces, spaces, spaces, 0x202020FF);
        firstBadByte("a highest byte above 127", 0, 0xA0202020, spaces, spaces, spaces, spaces);
        firstBadByte("a second byte above 127", 1, 0x20FE2020, spaces, spaces, spaces, spaces);
        firstBadByte("a third byte above 127", 2, 0x2020802F, spaces, spaces, spaces, spaces);
    }

    private void firstBadByte(String what, int place, int a, int b, int c, int d, int e) {
        Desk x = new Desk();
        check.due("feed of " + what, x.feed(a, b, c, d, e), 20);
        check.due("read of " + what, x.read(20), -1);
        check.due("fault of " + what, x.fault(0), 1);
        check.due("place of " + what, x.fault(1), place);
    }

    /** "-1, doing nothing, when there would be more than 4,000": with room for just twenty. */
    private void feedUpToFourThousand() {
        Desk x = withTapeOf(3980);
        check.due("feed onto 3,980", x.feedText("undo 7"), 4000);
        check.due("read(4001)", x.read(4001), -2);
        check.due("read(4000)", x.read(4000), 9);
        check.due("place of the last line", x.line(8, 2), 3980);
        check.due("number of the last line", x.number(8, 0), 7);
    }

    /** The same sentence, with room for one byte too few. */
    private void feedWithRoomForNineteen() {
        Desk x = withTapeOf(3981);
        check.due("feed onto 3,981", x.feedText("undo 7"), -1);
        check.due("feed onto 3,981 again", x.feed(0, 0, 0, 0, 0), -1);
        check.due("lines", x.line(1, 0), 1);
        check.due("fault(0)", x.fault(0), 0);
        check.due("read(3982)", x.read(3982), -2);
        check.due("read(3981)", x.read(3981), 8);
        check.due("line(7, 2)", x.line(7, 2), 3500);
        check.due("line(7, 1)", x.line(7, 1), 101);
        check.due("the tape has room again", x.feedText("undo 7"), 20);
    }

    /** The same sentence, without any room. */
    private void feedOntoAFullTape() {
        Desk x = new Desk();
        x.readText(TWO);
        x.print(0);
        x.wipe(false);
        x.print(1);
        String seen = x.seen();
        for (int there = 20; there <= 4000; there += 20) {
            check.due("feed", x.feedText("\n\n\n\n\n\n\n\n\n\n\n\n\n\n\n\n#\n\n\n"), there);
        }
        check.due("feed onto 4,000", x.feedText("undo 7\nundo 7\nundo 7"), -1);
        check.due("all that is seen behind a refused feed", x.seen(), seen);
        check.due("read(4001)", x.read(4001), -2);
        check.due("read(4000)", x.read(4000), 0);
        check.due("fault(0)", x.fault(0), 0);
    }

    /** An object with lines of 500 bytes on its tape, the last of them so long that it has so many. */
    private Desk withTapeOf(int bytes) {
        Desk x = new Desk();
        int last = bytes - 7 * 500;
        x.readText(Desk.lineOf(500) + Desk.lineOf(last));
        for (int there = 500; there <= 3500; there += 500) {
            check.due("print(0)", x.print(0), there);
        }
        check.due("print(1)", x.print(1), bytes);
        check.due("wipe(true)", x.wipe(true), bytes);
        return x;
    }

    /** "-2, doing nothing, when n is below 0". */
    private void readOfTooFew() {
        refused(-1);
        refused(Integer.MIN_VALUE);
        Desk x = new Desk();
        check.due("read(-1) of an empty tape", x.read(-1), -2);
        check.due("fault(0) behind it", x.fault(0), -1);
    }

    /** "or more than there are". */
    private void readOfTooMany() {
        refused(21);
        refused(4000);
        refused(4001);
        refused(Integer.MAX_VALUE);
        Desk x = new Desk();
        check.due("read(1) of an empty tape", x.read(1), -2);
        check.due("fault(0) behind it", x.fault(0), -1);
        check.due("fault(1) behind it", x.fault(1), -1);
    }

    /** A refused read leaves the lines, the fault, what was printed, and the tape. */
    private void refused(int n) {
        Desk x = new Desk();
        x.readText(TWO);
        x.print(1);
        x.feedText("slide 8\nfaces\nmirror");
        check.due("read(" + n + ") of 20 bytes", x.read(n), -2);
        check.due("all that is seen behind read(" + n + ")", x.seen(), SEEN_OF_TWO + "braid 3 1 -2\n");
        check.due("read(20) behind read(" + n + ")", x.read(20), 3);
        check.due("the lines then", x.seen(), "fault 0 -1; lines (4 at 0: 8) (15 at 8:) (8 at 14:); printed braid 3 1 -2\n");
        Desk y = new Desk();
        y.readText("show 5");
        y.feedText("slide 8\nfaces\nmirror");
        check.due("read(" + n + ") behind a fault", y.read(n), -2);
        check.due("the fault behind read(" + n + ")", y.seen(), "fault 4 5; lines; printed ");
        check.due("read(20) behind a fault and read(" + n + ")", y.read(20), 3);
    }

    /** The least text: nothing, on an empty tape or on one that has bytes. */
    private void readOfNothing() {
        Desk x = new Desk();
        x.readText(TWO);
        check.due("read(0) of an empty tape", x.read(0), 0);
        check.due("all that is seen behind it", x.seen(), "fault 0 -1; lines; printed ");
        x.readText("show 5");
        x.feedText("undo");
        check.due("read(0) of 20 bytes", x.read(0), 0);
        check.due("all that is seen behind it", x.seen(), "fault 0 -1; lines; printed ");
        check.due("read(1) behind it", x.read(1), -2);
        x.feedText(TWO);
        check.due("read(1) of 20 bytes", x.read(1), -1);
        check.due("its fault", x.fault(0), 3);
    }

    /** The greatest text: its first and its last byte count. */
    private void readOfFourThousand() {
        Desk x = new Desk();
        check.due("a comment of 4,000 bytes", x.readText("#" + "x".repeat(3999)), 0);
        check.due("a bad byte at 3,999", x.readText("#" + "x".repeat(3998) + "\u007f"), -1);
        check.due("its place", x.fault(1), 3999);
        Desk y = new Desk();
        check.due("a line's end at 4,000", y.readText("undo" + " ".repeat(3996)), -1);
        check.due("its fault", y.fault(0), 4);
        check.due("its place", y.fault(1), 4000);
        check.due("a digit at 3,999", y.readText("undo" + " ".repeat(3995) + "5"), 1);
        check.due("the number", y.number(0, 0), 5);
        Desk z = new Desk();
        check.due("a word of 4,000 letters", z.readText("a".repeat(4000)), -1);
        check.due("its fault", z.fault(0), 3);
        check.due("a number of 3,992 digits", z.readText("jones = " + "9".repeat(3992)), -1);
        check.due("its fault", z.fault(0), 2);
        check.due("its place", z.fault(1), 8);
    }

    /** "(which is empty then)": whatever was read of it, and whether there was a fault or not. */
    private void theTapeIsEmptyThen() {
        Desk x = new Desk();
        for (int n = 0; n <= 20; n += 5) {
            check.due("feed onto an empty tape", x.feedText(TWO), 20);
            check.due("read(" + n + ") is not refused", x.read(n) == -2 ? 1 : 0, 0);
            check.due("read(1) behind read(" + n + ")", x.read(1), -2);
        }
    }

    /** "The first n bytes": the byte at n - 1 counts, the one at n does not. */
    private void theFirstBytesAlone() {
        Desk x = new Desk();
        x.feedText("undo 1234");
        check.due("read(8)", x.read(8), 1);
        check.due("the number", x.number(0, 0), 123);
        x.feedText("undo 1234");
        check.due("read(9)", x.read(9), 1);
        check.due("the number", x.number(0, 0), 1234);
        x.feedText("show\u0000");
        check.due("read(4)", x.read(4), 1);
        x.feedText("show\u0000");
        check.due("read(5)", x.read(5), -1);
        x.feedText("show\ncount");
        check.due("read(5) of two lines", x.read(5), 1);
        x.feedText("show\ncount");
        check.due("read(6) of two lines", x.read(6), -1);
        check.due("its fault", x.fault(0), 3);
    }

    /** "-1 when there is a fault: then there are none." */
    private void aFaultLeavesNoLines() {
        Desk x = new Desk();
        x.readText(TWO);
        x.print(0);
        check.due("a fault in the first line", x.readText("undo"), -1);
        check.due("all that is seen", x.seen(), "fault 4 4; lines; printed undo 7\n");
        x.readText(TWO);
        check.due("a fault behind the last line", x.readText(TWO + "#\t"), -1);
        check.due("all that is seen", x.seen(), "fault 1 21; lines; printed undo 7\n");
        check.due("print(0)", x.print(0), -1);
        check.due("number(0, 0)", x.number(0, 0), 0);
        check.due("no fault again", x.readText(TWO), 2);
        check.due("all that is seen", x.seen(), SEEN_OF_TWO + "undo 7\n");
    }
}
