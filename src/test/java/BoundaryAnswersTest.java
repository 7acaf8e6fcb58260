/** The boundary cases of promises 4, 5, 6, 8 and 9: which questions have no answer, and wipe. */
public final class BoundaryAnswersTest {
    private static final int[] NEVER = {-2, -1, 64, 4000, Integer.MAX_VALUE, Integer.MIN_VALUE};
    private final Check check = new Check();

    public static void main(String[] args) {
        BoundaryAnswersTest test = new BoundaryAnswersTest();
        test.noReadYet();
        test.noFault();
        test.anotherWhatOfAFault();
        test.noSuchLine();
        test.theLastOf64Lines();
        test.anotherWhatOfALine();
        test.noSuchNumber();
        test.theNumberBehindTheLast();
        test.questionsChangeNothing();
        test.noSuchByte();
        test.theLastOfFourThousandBytes();
        test.wipeOfNothing();
        test.wipeOfFourThousand();
        test.wipeInPlaceOfAFullTape();
        test.wipeAndRoomOnTheTape();
        test.check.end();
    }

    /** fault: "-1 when there was none", that is no read, or none but refused ones. */
    private void noReadYet() {
        Desk x = new Desk();
        check.due("fault(0) ahead of all reads", x.fault(0), -1);
        check.due("fault(1) ahead of all reads", x.fault(1), -1);
        x.feedText("show");
        x.print(0);
        x.wipe(false);
        check.due("read(21)", x.read(21), -2);
        check.due("fault(0) behind a refused read", x.fault(0), -1);
        check.due("fault(1) behind a refused read", x.fault(1), -1);
        check.due("read(20)", x.read(20), 1);
        check.due("fault(0) behind a read", x.fault(0), 0);
    }

    /** fault: "0 its fault (0: none)", and no place then. */
    private void noFault() {
        Desk x = new Desk();
        x.readText("show 5");
        check.due("fault(0)", x.fault(0), 4);
        check.due("fault(1)", x.fault(1), 5);
        check.due("read(0)", x.read(0), 0);
        check.due("fault(0) without one", x.fault(0), 0);
        check.due("fault(1) without one", x.fault(1), -1);
        x.readText("5");
        check.due("fault(0) at the first byte", x.fault(0), 3);
        check.due("place 0", x.fault(1), 0);
    }

    /** fault: "or what is another". */
    private void anotherWhatOfAFault() {
        Desk x = new Desk();
        for (int turn = 0; turn < 3; turn++) {
            for (int what : new int[] {-1, 2, 3, Integer.MAX_VALUE, Integer.MIN_VALUE}) {
                check.due("fault(" + what + ")", x.fault(what), -1);
            }
            x.readText(turn == 0 ? "show 5" : "show");
        }
    }

    /** line: "-1 when there is none". */
    private void noSuchLine() {
        Desk x = new Desk();
        for (int k : new int[] {0, 1, -1, 64}) {
            check.due("line(" + k + ", 0) of no lines", x.line(k, 0), -1);
        }
        x.readText("show\nundo 5\n\n");
        check.due("line(1, 0), the last", x.line(1, 0), 3);
        for (int what = 0; what <= 2; what++) {
            check.due("line(2, " + what + "), behind the last", x.line(2, what), -1);
            for (int k : NEVER) {
                check.due("line(" + k + ", " + what + ")", x.line(k, what), -1);
            }
        }
        x.readText("show");
        check.due("line(1, 0), no longer there", x.line(1, 0), -1);
        x.readText("undo");
        check.due("line(0, 0), no longer there", x.line(0, 0), -1);
    }

    private void theLastOf64Lines() {
        Desk x = new Desk();
        x.readText("undo 5\n".repeat(64));
        check.due("line(63, 0)", x.line(63, 0), 3);
        check.due("line(63, 1)", x.line(63, 1), 1);
        check.due("line(63, 2)", x.line(63, 2), 441);
        check.due("number(63, 0)", x.number(63, 0), 5);
        check.due("print(63)", x.print(63), 7);
        check.due("line(64, 0)", x.line(64, 0), -1);
        check.due("line(64, 1)", x.line(64, 1), -1);
        check.due("line(64, 2)", x.line(64, 2), -1);
        check.due("number(64, 0)", x.number(64, 0), 0);
        check.due("print(64)", x.print(64), -1);
    }

    /** line: "or what is another". */
    private void anotherWhatOfALine() {
        Desk x = new Desk();
        x.readText(" undo 5");
        check.due("line(0, 0)", x.line(0, 0), 3);
        check.due("line(0, 1)", x.line(0, 1), 1);
        check.due("line(0, 2)", x.line(0, 2), 1);
        for (int what : new int[] {-1, 3, 4, Integer.MAX_VALUE, Integer.MIN_VALUE}) {
            check.due("line(0, " + what + ")", x.line(0, what), -1);
        }
    }

    /** number: "0 when there is none", there being no such line. */
    private void noSuchNumber() {
        Desk x = new Desk();
        check.due("number(0, 0) of no lines", x.number(0, 0), 0);
        x.readText("undo 5\nundo 6\nundo 7");
        check.due("number(2, 0), of the last line", x.number(2, 0), 7);
        check.due("number(3, 0), behind the last line", x.number(3, 0), 0);
        for (int k : NEVER) {
            check.due("number(" + k + ", 0)", x.number(k, 0), 0);
        }
        x.readText("undo 8");
        check.due("number(1, 0), no longer there", x.number(1, 0), 0);
        x.readText("undo 9\nundo");
        check.due("number(0, 0) behind a fault", x.number(0, 0), 0);
    }

    /** number: "0 when there is none", the line having fewer; those of its neighbours are not its own. */
    private void theNumberBehindTheLast() {
        Desk x = new Desk();
        x.readText("undo 5\nbraid 6 7 8\nshow\nslide 9\njones = 3A^4\ncode +[1, 2, 3, 4] o 5");
        int[] sizes = {1, 3, 0, 1, 2, 6};
        long[] firsts = {5, 6, 0, 9, 3, 1};
        long[] lasts = {5, 8, 0, 9, 4, 5};
        for (int k = 0; k < sizes.length; k++) {
            check.due("line(" + k + ", 1)", x.line(k, 1), sizes[k]);
            check.due("number(" + k + ", -1)", x.number(k, -1), 0);
            check.due("number(" + k + ", 0)", x.number(k, 0), firsts[k]);
            check.due("the last number of line " + k, x.number(k, sizes[k] - 1), lasts[k]);
            check.due("the number behind it", x.number(k, sizes[k]), 0);
            for (int i : NEVER) {
                check.due("number(" + k + ", " + i + ")", x.number(k, i), 0);
            }
        }
    }

    /** Questions without an answer leave all as it was. */
    private void questionsChangeNothing() {
        Desk x = new Desk();
        x.readText("undo 5\nshow");
        x.print(0);
        x.feedText("slide 8");
        String seen = x.seen();
        for (int i : NEVER) {
            x.fault(i);
            x.line(i, 0);
            x.line(0, i);
            x.number(i, 0);
            x.number(0, i);
            x.print(i);
            x.printed(i);
        }
        check.due("all that is seen behind questions without an answer", x.seen(), seen);
        check.due("the tape behind them", x.read(20), 1);
    }

    /** printed: "-1 when there is none". */
    private void noSuchByte() {
        Desk x = new Desk();
        check.due("printed(0) of nothing", x.printed(0), -1);
        x.readText("show");
        check.due("printed(0) of nothing, behind a read", x.printed(0), -1);
        x.print(0);
        check.due("printed(0)", x.printed(0), 's');
        check.due("printed(4), the last", x.printed(4), 10);
        check.due("printed(5), behind the last", x.printed(5), -1);
        for (int i : NEVER) {
            check.due("printed(" + i + ")", x.printed(i), -1);
        }
        check.due("print(1)", x.print(1), -1);
        check.due("printed(5) behind a refused print", x.printed(5), -1);
        x.wipe(false);
        check.due("printed(0) of what is wiped", x.printed(0), -1);
        check.due("printed(4) of what is wiped", x.printed(4), -1);
    }

    private void theLastOfFourThousandBytes() {
        Desk x = withPaperOf(4000);
        check.due("printed(3998)", x.printed(3998), ']');
        check.due("printed(3999)", x.printed(3999), 10);
        check.due("printed(4000)", x.printed(4000), -1);
        Desk y = withPaperOf(3999);
        check.due("printed(3998) of 3,999", y.printed(3998), 10);
        check.due("printed(3999) of 3,999", y.printed(3999), -1);
    }

    /** wipe: "how many bytes there were", being none. */
    private void wipeOfNothing() {
        Desk x = new Desk();
        x.feedText("show");
        check.due("wipe(false) of nothing", x.wipe(false), 0);
        check.due("read(20), the tape being as it was", x.read(20), 1);
        x.feedText("undo 5");
        check.due("wipe(true) of nothing", x.wipe(true), 0);
        check.due("all that is seen", x.seen(), "fault 0 -1; lines (13 at 0:); printed ");
        check.due("read(1) of no bytes in place of 20", x.read(1), -2);
        check.due("read(0)", x.read(0), 0);
        x.readText("show");
        x.print(0);
        x.print(0);
        check.due("wipe(false)", x.wipe(false), 10);
        check.due("wipe(false) again", x.wipe(false), 0);
    }

    /** wipe: as many bytes as can be. */
    private void wipeOfFourThousand() {
        Desk x = withPaperOf(4000);
        check.due("wipe(false)", x.wipe(false), 4000);
        check.due("printed(0)", x.printed(0), -1);
        check.due("read(1), nothing having come to the tape", x.read(1), -2);
        check.due("print(0)", x.print(0), 500);
        Desk y = withPaperOf(4000);
        check.due("wipe(true)", y.wipe(true), 4000);
        check.due("printed(0)", y.printed(0), -1);
        check.due("wipe(false)", y.wipe(false), 0);
        check.due("read(4001)", y.read(4001), -2);
        check.due("read(4000)", y.read(4000), 8);
        check.due("line(7, 2)", y.line(7, 2), 3500);
        check.due("line(7, 1)", y.line(7, 1), 101);
        check.due("number(7, 99)", y.number(7, 99), 4);
    }

    /** wipe: "they come to the tape, in place of what is there", be it full. */
    private void wipeInPlaceOfAFullTape() {
        Desk x = new Desk();
        x.readText("undo 7");
        x.print(0);
        for (int there = 20; there <= 4000; there += 20) {
            check.due("feed", x.feedText("slide 8"), there);
        }
        check.due("wipe(true)", x.wipe(true), 7);
        check.due("feed onto 7", x.feedText("mirror"), 27);
        check.due("read(28)", x.read(28), -2);
        check.due("read(27)", x.read(27), 2);
        check.due("all that is seen", x.seen(), "fault 0 -1; lines (3 at 0: 7) (8 at 7:); printed ");
    }

    /** What has come to the tape counts for feed: twenty more, or one too few for twenty. */
    private void wipeAndRoomOnTheTape() {
        Desk x = withPaperOf(3980);
        check.due("wipe(true)", x.wipe(true), 3980);
        check.due("feed onto 3,980", x.feedText("show"), 4000);
        Desk y = withPaperOf(3981);
        check.due("wipe(true)", y.wipe(true), 3981);
        check.due("feed onto 3,981", y.feedText("show"), -1);
        check.due("read(3981)", y.read(3981), 8);
        Desk z = withPaperOf(3981);
        check.due("wipe(false)", z.wipe(false), 3981);
        check.due("feed onto nothing", z.feedText("show"), 20);
    }

    /** An object that has printed so many bytes, in lines of 500 but for the last. */
    private Desk withPaperOf(int bytes) {
        Desk x = new Desk();
        x.readText(Desk.lineOf(500) + Desk.lineOf(bytes - 3500));
        for (int there = 500; there <= 3500; there += 500) {
            check.due("print(0)", x.print(0), there);
        }
        check.due("print(1)", x.print(1), bytes);
        return x;
    }
}
