/** Promise 2: feed. */
public final class Promise2FeedTest {
    public static void main(String[] args) {
        Check check = new Check();
        bytesComeHighestFirst(check);
        bytesComeBehindThoseThere(check);
        atMostFourThousand(check);
        roomIsCountedInBytes(check);
        check.end();
    }

    private static void bytesComeHighestFirst(Check check) {
        LinkText x = new LinkText();
        // "braid 12 3 -4 56 789"
        check.due("feed", x.feed(0x62726169, 0x64203132, 0x2033202D, 0x34203536, 0x20373839), 20);
        check.due("read(20)", x.read(20), 1);
        check.due("numbers", Check.numbers(x, 0), "2: 12 3 -4 56 789");
        // A number below 0 has its highest byte above 127, which is told at itself.
        check.due("feed", x.feed(0x73686F77, 0x0A202080, -1, 0, 0), 20);
        check.due("read(8)", x.read(8), -1);
        check.due("fault(0)", x.fault(0), 1);
        check.due("fault(1)", x.fault(1), 7);
        check.due("feed", x.feed(0x73686F77, 0x0A202020, -1, 0, 0), 20);
        check.due("read(9)", x.read(9), -1);
        check.due("fault(1)", x.fault(1), 8);
    }

    private static void bytesComeBehindThoseThere(Check check) {
        LinkText x = new LinkText();
        check.due("first feed", Check.feed(x, "braid 5 1 2 3 4 1 2 "), 20);
        check.due("second feed", Check.feed(x, "-3 -4              9"), 40);
        check.due("read(40)", x.read(40), 1);
        check.due("numbers", Check.numbers(x, 0), "2: 5 1 2 3 4 1 2 -3 -4 9");
    }

    private static void atMostFourThousand(Check check) {
        LinkText x = new LinkText();
        for (int fed = 20; fed <= 3980; fed += 20) {
            check.due("feed", x.feed(0x20202020, 0x20202020, 0x20202020, 0x20202020, 0x20202020), fed);
        }
        check.due("feed of the last twenty", Check.feed(x, "undo 7              "), 4000);
        check.due("feed of too many", Check.feed(x, "show"), -1);
        check.due("feed of too many again", Check.feed(x, "show"), -1);
        check.due("read(4001)", x.read(4001), -2);
        check.due("read(4000)", x.read(4000), 1);
        check.due("place", x.line(0, 2), 3980);
        check.due("feed behind a read", Check.feed(x, "show"), 20);
    }

    private static void roomIsCountedInBytes(Check check) {
        LinkText x = withTapeOf(199, 0);
        check.due("feed onto 3,980", Check.feed(x, "show"), 4000);
        LinkText y = withTapeOf(198, 1);
        check.due("feed onto 3,981", Check.feed(y, "show"), -1);
        check.due("read(3982)", y.read(3982), -2);
        check.due("read(3981)", y.read(3981), -1);
        LinkText z = withTapeOf(197, 1);
        check.due("feed onto 3,961", Check.feed(z, "show"), 3981);
        check.due("feed onto 3,981", Check.feed(z, "show"), -1);
    }

    /** An object with so many lines of 20 bytes on its tape, and of 21 bytes behind them. */
    private static LinkText withTapeOf(int twenties, int others) {
        LinkText x = new LinkText();
        Check.read(x, "code +[12, 3, 4, 5]\ncode +[12, 3, 4, 56]\n");
        for (int i = 0; i < twenties; i++) {
            x.print(0);
        }
        for (int i = 0; i < others; i++) {
            x.print(1);
        }
        x.wipe(true);
        return x;
    }
}
