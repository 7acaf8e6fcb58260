/** Promise 9: wipe. */
public final class Promise9WipeTest {
    public static void main(String[] args) {
        Check check = new Check();
        withoutTape(check);
        withTape(check);
        nothingToTheTape(check);
        fourThousandToTheTape(check);
        check.end();
    }

    private static void withoutTape(Check check) {
        LinkText x = new LinkText();
        Check.read(x, "undo 3\nshow");
        x.print(0);
        x.print(1);
        Check.feed(x, "faces");
        check.due("wipe(false)", x.wipe(false), 12);
        check.due("printed(0)", x.printed(0), -1);
        check.due("wipe(false) again", x.wipe(false), 0);
        check.due("line(0, 0), the lines being as they were", x.line(0, 0), 3);
        check.due("print(1)", x.print(1), 5);
        check.due("read(21)", x.read(21), -2);
        check.due("read(20), the tape being as it was", x.read(20), 1);
        check.due("line(0, 0)", x.line(0, 0), 15);
        check.due("printed(0), reads leaving it alone", x.printed(0), 's');
    }

    private static void withTape(Check check) {
        LinkText x = new LinkText();
        Check.read(x, "jones = -3A^-4 + 5\nbraid 4 1 -2 3");
        x.print(1);
        x.print(0);
        Check.feed(x, "faces\nfaces\nfaces\nfaces\nfaces\nfaces\nfaces");
        check.due("wipe(true)", x.wipe(true), 34);
        check.due("printed(0)", x.printed(0), -1);
        check.due("line(0, 0), the lines being as they were", x.line(0, 0), 17);
        check.due("read(35)", x.read(35), -2);
        check.due("read(34)", x.read(34), 2);
        check.due("line 0", Check.numbers(x, 0), "2: 4 1 -2 3");
        check.due("line 1", Check.numbers(x, 1), "17: -3 -4 5 0");
        x.print(0);
        check.due("wipe(true)", x.wipe(true), 15);
        check.due("feed behind them", Check.feed(x, "faces"), 35);
        check.due("read(35)", x.read(35), 2);
        check.due("line(1, 2)", x.line(1, 2), 15);
    }

    private static void nothingToTheTape(Check check) {
        LinkText x = new LinkText();
        Check.feed(x, "show");
        check.due("wipe(true) of nothing", x.wipe(true), 0);
        check.due("read(1)", x.read(1), -2);
        check.due("fault(0)", x.fault(0), -1);
        check.due("feed", Check.feed(x, "show"), 20);
        check.due("read(20)", x.read(20), 1);
    }

    private static void fourThousandToTheTape(Check check) {
        LinkText x = new LinkText();
        String text = "jones = " + Check.times(63, "99999999999999999A^-1 + ") + "1\n";
        check.due("read of a long line", Check.read(x, text), 1);
        check.due("print(0)", x.print(0), text.length());
        check.due("print(0) again", x.print(0), 2 * text.length());
        Check.read(x, "show");
        int there = 2 * text.length();
        while (there + 5 <= 4000) {
            there += 5;
            check.due("print(0)", x.print(0), there);
        }
        check.due("wipe(true)", x.wipe(true), there);
        check.due("feed", Check.feed(x, "show"), -1);
        check.due("read", x.read(there), -1);
        check.due("fault(0), there being too many lines", x.fault(0), 5);
    }
}
