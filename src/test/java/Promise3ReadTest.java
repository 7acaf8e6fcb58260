/** Promise 3: read, with the terms: texts, lines, tokens, kinds and limits. */
public final class Promise3ReadTest {
    public static void main(String[] args) {
        Check check = new Check();
        countsTheLines(check);
        refusesWrongLengths(check);
        readsTheFirstBytesAlone(check);
        emptiesTheTape(check);
        replacesTheLines(check);
        splitsTokens(check);
        keepsTheLimits(check);
        check.end();
    }

    private static void countsTheLines(Check check) {
        check.due("no bytes", new LinkText().read(0), 0);
        check.due("one line", Check.read(new LinkText(), "show"), 1);
        check.due("one line with its 10", Check.read(new LinkText(), "show\n"), 1);
        check.due("two lines", Check.read(new LinkText(), "show\ncount"), 2);
        check.due("blank lines", Check.read(new LinkText(), "\n\n  \n# show\n   # a #\n"), 0);
        check.due("lines among blank ones", Check.read(new LinkText(), "\n show # show\n\n#\ncount\n \n"), 2);
        check.due("a comment at the end", Check.read(new LinkText(), "show#"), 1);
        check.due("4,000 bytes of blank lines", Check.read(new LinkText(), Check.times(4000, "\n")), 0);
        check.due("a line behind 3,996 blank ones", Check.read(new LinkText(), Check.times(3996, "\n") + "show"), 1);
        check.due("every byte that may be in a comment", Check.read(new LinkText(), "show # !\"$%&'*~{|}`@/:;<>?\\"), 1);
    }

    private static void refusesWrongLengths(Check check) {
        LinkText x = new LinkText();
        check.due("read(1) of nothing", x.read(1), -2);
        check.due("read(-1) of nothing", x.read(-1), -2);
        check.due("read(0)", x.read(0), 0);
        Check.feed(x, "show\ncount");
        check.due("read(-1)", x.read(-1), -2);
        check.due("read(least)", x.read(Integer.MIN_VALUE), -2);
        check.due("read(21)", x.read(21), -2);
        check.due("read(most)", x.read(Integer.MAX_VALUE), -2);
        check.due("read(20), the tape being as it was", x.read(20), 2);
        check.due("read(21), the lines being as they were", x.read(21), -2);
        check.due("line(1, 0)", x.line(1, 0), 14);
    }

    private static void readsTheFirstBytesAlone(Check check) {
        LinkText x = new LinkText();
        Check.feed(x, "undo 12345 show");
        check.due("read(8)", x.read(8), 1);
        check.due("number(0, 0)", x.number(0, 0), 123);
        Check.feed(x, "show\ncount\nsho");
        check.due("read(11)", x.read(11), 2);
    }

    private static void emptiesTheTape(Check check) {
        LinkText x = new LinkText();
        Check.feed(x, "show\ncount");
        check.due("read(4)", x.read(4), 1);
        check.due("read(1) behind a read", x.read(1), -2);
        check.due("feed behind a read", Check.feed(x, "faces"), 20);
        check.due("read(20)", x.read(20), 1);
        check.due("line(0, 0)", x.line(0, 0), 15);
        Check.feed(x, "nothing");
        check.due("read with a fault", x.read(7), -1);
        check.due("read(1) behind a fault", x.read(1), -2);
        Check.feed(x, "show");
        check.due("read(0)", x.read(0), 0);
        check.due("read(1) behind read(0)", x.read(1), -2);
    }

    private static void replacesTheLines(Check check) {
        LinkText x = new LinkText();
        Check.read(x, "undo 1\nundo 2\nundo 3");
        check.due("one line now", Check.read(x, "slide 9"), 1);
        check.due("number(0, 0)", x.number(0, 0), 9);
        check.due("line(1, 0)", x.line(1, 0), -1);
        check.due("number(1, 0)", x.number(1, 0), 0);
        check.due("a fault in the second line", Check.read(x, "undo 4\nundo"), -1);
        check.due("line(0, 0)", x.line(0, 0), -1);
        check.due("number(0, 0)", x.number(0, 0), 0);
        check.due("print(0)", x.print(0), -1);
        check.due("one line again", Check.read(x, "undo 5"), 1);
        check.due("number(0, 0)", x.number(0, 0), 5);
        check.due("no lines", x.read(0), 0);
        check.due("line(0, 0)", x.line(0, 0), -1);
    }

    private static void splitsTokens(Check check) {
        check.oneLine("braid3 1-2", 2, 3, 1, -2);
        check.oneLine("braid3-1-2", 2, 3, -1, -2);
        check.oneLine("  braid  3   -   1", 2, 3, -1);
        check.oneLine("braid 1 2# 3", 2, 1, 2);
        check.oneLine("twist3-under", 5, 3, -1, 0);
    }

    private static void keepsTheLimits(Check check) {
        LinkText x = new LinkText();
        check.due("64 lines", Check.read(x, Check.times(64, "undo 1\n\n")), 64);
        check.due("line(63, 2)", x.line(63, 2), 504);
        check.due("line(64, 0)", x.line(64, 0), -1);
        check.due("64 lines and blank ones", Check.read(x, Check.times(64, "undo 1\n") + "\n # 65\n  "), 64);
        check.due("65 lines", Check.read(x, Check.times(65, "undo 1\n")), -1);
        check.due("20 crossings", Check.read(x, "code" + Check.times(20, "+[1,2,3,4]") + "o 1"), 1);
        check.due("count", x.line(0, 1), 101);
        check.due("21 crossings", Check.read(x, "code" + Check.times(21, "+[1,2,3,4]")), -1);
        check.due("32 letters", Check.read(x, "braid 9" + Check.times(32, " -1")), 1);
        check.due("count", x.line(0, 1), 33);
        check.due("33 letters", Check.read(x, "braid 9" + Check.times(33, " -1")), -1);
        check.due("64 terms", Check.read(x, "jones = 1" + Check.times(63, "+A")), 1);
        check.due("count", x.line(0, 1), 128);
        check.due("65 terms", Check.read(x, "jones = 1" + Check.times(64, "+A")), -1);
        aFullText(check);
    }

    /** As many numbers as 4,000 bytes can have: none of them is lost. */
    private static void aFullText(Check check) {
        LinkText x = new LinkText();
        String text = Check.times(29, "jones=A" + Check.times(63, "-A") + "\n") + "jones=A" + Check.times(45, "-A");
        check.due("a text of many numbers", Check.read(x, text), 30);
        for (int k = 0; k < 30; k++) {
            int count = k < 29 ? 128 : 92;
            check.due("count of line " + k, x.line(k, 1), count);
            check.due("first coefficient of line " + k, x.number(k, 0), 1);
            check.due("last coefficient of line " + k, x.number(k, count - 2), -1);
            check.due("last exponent of line " + k, x.number(k, count - 1), 1);
        }
    }
}
