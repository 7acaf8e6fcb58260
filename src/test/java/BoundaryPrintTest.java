/** The boundary cases of promise 7: what is left out of a printed line, and where there is no room. */
public final class BoundaryPrintTest {
    /** A line of each kind as it is printed, the shortest and longer ones. */
    private static final String[] LINES = {"code\n", "code o 1\n", "code -[1, 20, 300, 4000] +[5, 6, 7, 8]\n",
        "braid 3\n", "braid 3 1 -1 0 -2\n", "undo 3\n", "slide 30\n", "twist 3 + over\n",
        "twist 3 + under\n", "twist 0 - over\n", "twist 1 - under\n", "push -3 over 4\n",
        "push 0 under -1\n", "push -1 under -4\n", "push 1 over 0\n", "simplify\n", "mirror\n",
        "reverse 300\n", "change 0\n", "smooth 9999\n", "number\n", "show\n", "count\n", "faces\n",
        "bracket\n", "bracket = -A^-3 - A^5 + 2\n", "jones\n", "jones = A^16 + 10000A\n",
        "alexander\n", "alexander = t^2 - 3t + 1\n"};
    private final Check check = new Check();

    public static void main(String[] args) {
        BoundaryPrintTest test = new BoundaryPrintTest();
        test.linesAreThereAsPrinted();
        test.spacesAsFewAndAsManyAsMayBe();
        test.coefficientsAndExponents();
        test.theLongestNumbers();
        test.withoutCircles();
        test.noSuchLine();
        test.roomForALineAndForOneByteLess();
        test.noRoomAtAll();
        test.theLongestLine();
        test.check.end();
    }

    private void linesAreThereAsPrinted() {
        for (String line : LINES) {
            check.prints(line, line);
        }
    }

    /** "a space between two of them but ..", however many there were. */
    private void spacesAsFewAndAsManyAsMayBe() {
        for (String line : LINES) {
            check.prints("   " + line.replace("\n", "   # as it was"), line);
            check.prints(line.replaceAll("([^a-zA-Z0-9\\n])", "  $1  "), line);
            check.prints(line.replaceAll(" *([^a-zA-Z0-9 \\n]) *", "$1"), line);
            check.prints(line.replaceAll("([a-z]) ([0-9])", "$1$2").replaceAll("([0-9]) ([a-z])", "$1$2"), line);
        }
    }

    /** "N is left out where it is 1 and a V comes, V with exponent 0, ^ X with exponent 1." */
    private void coefficientsAndExponents() {
        String[][] terms = {
            {"0A^-2", "0A^-2"}, {"0A^-1", "0A^-1"}, {"0A^0", "0"}, {"0A^-0", "0"}, {"0", "0"},
            {"0A^1", "0A"}, {"0A", "0A"}, {"0A^2", "0A^2"},
            {"1A^-2", "A^-2"}, {"1A^-1", "A^-1"}, {"1A^0", "1"}, {"1A^-0", "1"}, {"1", "1"},
            {"1A^1", "A"}, {"1A", "A"}, {"1A^2", "A^2"},
            {"A^-2", "A^-2"}, {"A^-1", "A^-1"}, {"A^0", "1"}, {"A^-0", "1"},
            {"A^1", "A"}, {"A", "A"}, {"A^2", "A^2"}, {"A^10", "A^10"}, {"A^9999", "A^9999"},
            {"2A^-1", "2A^-1"}, {"2A^0", "2"}, {"2A^-0", "2"}, {"2", "2"}, {"2A^1", "2A"}, {"2A", "2A"},
            {"2A^2", "2A^2"}, {"10A^0", "10"}, {"10A", "10A"}, {"11A^11", "11A^11"}};
        for (String[] term : terms) {
            for (String word : new String[] {"bracket", "jones", "alexander"}) {
                String v = word.equals("alexander") ? "t" : "A";
                String from = term[0].replace("A", v);
                String to = term[1].replace("A", v);
                check.prints(word + "=" + from, word + " = " + to + "\n");
                check.prints(word + "= - " + from, word + " = -" + to + "\n");
                check.prints(word + "=7+" + from, word + " = 7 + " + to + "\n");
                check.prints(word + "=7-" + from, word + " = 7 - " + to + "\n");
                check.prints(word + "=" + from + "+" + from + "-" + from,
                    word + " = " + to + " + " + to + " - " + to + "\n");
            }
        }
    }

    private void theLongestNumbers() {
        for (String n : new String[] {"9", "10", "99", "100", "9999", "10000", "2147483647", "2147483648",
            "99999999999999999", "100000000000000000", "999999999999999999"}) {
            check.prints("jones=-" + n + "-" + n + "A+" + n, "jones = -" + n + " - " + n + "A + " + n + "\n");
        }
        for (String n : new String[] {"0", "9", "10", "99", "100", "999", "1000", "9999"}) {
            check.prints("braid " + n + " " + n, "braid " + n + " " + n + "\n");
            check.prints("code+[" + n + "," + n + "," + n + "," + n + "]",
                "code +[" + n + ", " + n + ", " + n + ", " + n + "]\n");
        }
        for (String n : new String[] {"1", "9", "10", "99", "100", "999", "1000", "9999"}) {
            check.prints("code o" + n, "code o " + n + "\n");
        }
        check.prints("push-9999 over-9999", "push -9999 over -9999\n");
        check.prints("jones=A^-9999", "jones = A^-9999\n");
    }

    /** "Without circles o N is left out." */
    private void withoutCircles() {
        check.prints("code", "code\n");
        check.prints("code o 0", "code\n");
        check.prints("code o 1", "code o 1\n");
        check.prints("code o 9999", "code o 9999\n");
        check.prints("code-[0,0,0,0]", "code -[0, 0, 0, 0]\n");
        check.prints("code-[0,0,0,0]o 0", "code -[0, 0, 0, 0]\n");
        check.prints("code-[0,0,0,0]o 10", "code -[0, 0, 0, 0] o 10\n");
    }

    /** "-1, doing nothing, when there is no such line". */
    private void noSuchLine() {
        Desk x = new Desk();
        check.due("print(0) of no lines", x.print(0), -1);
        check.due("all that is seen", x.seen(), "fault -1 -1; lines; printed ");
        x.readText("undo 3\nshow");
        check.due("print(1), the last", x.print(1), 5);
        x.feedText("slide 8");
        String seen = x.seen();
        for (int k : new int[] {2, 3, 63, 64, -1, -2, Integer.MAX_VALUE, Integer.MIN_VALUE}) {
            check.due("print(" + k + ")", x.print(k), -1);
        }
        check.due("all that is seen behind refused prints", x.seen(), seen);
        check.due("print(0), the first", x.print(0), 12);
        check.due("read(20), the tape being as it was", x.read(20), 1);
        check.due("print(1), no longer there", x.print(1), -1);
        x.readText("undo");
        check.due("print(0), no longer there", x.print(0), -1);
        check.due("all that was printed", x.paper(0), "show\nundo 3\n");
    }

    /** "or there would be more than 4,000": at 4,000, and at 4,001. */
    private void roomForALineAndForOneByteLess() {
        for (String line : LINES) {
            Desk x = filledUpTo(4000 - line.length(), line);
            check.due("print with just room for " + line, x.print(2), 4000);
            check.due("what is printed at last", x.paper(4000 - line.length()), line);
            check.due("wipe(false)", x.wipe(false), 4000);
            Desk y = filledUpTo(4001 - line.length(), line);
            check.due("print with room for less than " + line, y.print(2), -1);
            check.due("what is printed behind a refused print", y.paper(3990 - line.length()).length(), 11);
            check.due("the last byte", y.printed(4000 - line.length()), 10);
            check.due("print again", y.print(2), -1);
            check.due("wipe(true)", y.wipe(true), 4001 - line.length());
            check.due("print with room again", y.print(2), line.length());
            check.due("what is printed then", y.paper(0), line);
            check.due("read of what was there", y.read(4001 - line.length()), 8);
        }
    }

    /** An object that has printed so many bytes, and has such a line as line 2. */
    private Desk filledUpTo(int bytes, String line) {
        Desk x = new Desk();
        check.due("read", x.readText(Desk.lineOf(510) + Desk.lineOf(bytes - 7 * 510) + line), 3);
        for (int i = 1; i <= 7; i++) {
            check.due("print(0)", x.print(0), 510 * i);
        }
        check.due("print(1)", x.print(1), bytes);
        return x;
    }

    /** The same sentence, without any room: a refused print leaves all as it was, a shorter one too. */
    private void noRoomAtAll() {
        Desk x = filledUpTo(3995, "show\n");
        check.due("print(2)", x.print(2), 4000);
        x.feedText("slide 8");
        for (int k = 0; k <= 2; k++) {
            check.due("print(" + k + ") without room", x.print(k), -1);
        }
        check.due("what is printed at last", x.paper(3990), Desk.lineOf(425).substring(420) + "show\n");
        check.due("line(2, 0)", x.line(2, 0), 13);
        check.due("fault(0)", x.fault(0), 0);
        check.due("read(20), the tape being as it was", x.read(20), 1);
        check.due("print(0) of another text", x.print(0), -1);
        check.due("wipe(false)", x.wipe(false), 4000);
        check.due("print(0) with room again", x.print(0), 8);
        check.due("what is printed then", x.paper(0), "slide 8\n");
    }

    /** 64 terms of the greatest numbers: printed twice, and not a third time. */
    private void theLongestLine() {
        String term = "999999999999999999t^-9999";
        String line = "alexander = -" + term + (" - " + term).repeat(63) + "\n";
        Desk x = new Desk();
        check.due("read", x.readText(line), 1);
        check.due("print(0)", x.print(0), line.length());
        check.due("print(0) again", x.print(0), 2 * line.length());
        check.due("print(0) a third time", x.print(0), -1);
        check.due("wipe(true)", x.wipe(true), 2 * line.length());
        check.due("read again", x.read(2 * line.length()), 2);
        check.due("number(1, 126)", x.number(1, 126), -999999999999999999L);
        check.due("number(1, 127)", x.number(1, 127), -9999);
        // No object has calls enough for all of its bytes, so some are asked for a part each.
        for (int from = 0; from < line.length(); from += 400) {
            Desk y = new Desk();
            y.readText(line);
            y.print(0);
            for (int i = from; i < Math.min(from + 400, line.length()); i++) {
                check.due("printed(" + i + ")", y.printed(i), line.charAt(i));
            }
        }
    }
}
