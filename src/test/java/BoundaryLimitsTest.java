/** The limits of a text: what comes any number of times or once or not, and how often at most. */
public final class BoundaryLimitsTest {
    private static final String CROSSING = " -[1, 2, 3, 4]";
    private final Check check = new Check();

    public static void main(String[] args) {
        BoundaryLimitsTest test = new BoundaryLimitsTest();
        test.anyNumberOfTimesIsAlsoNone();
        test.onceOrNot();
        test.twentyCrossings();
        test.thirtyTwoLetters();
        test.sixtyFourTerms();
        test.sixtyFourLines();
        test.linesWithoutTokensAreNone();
        test.eachLineHasItsOwnLimits();
        test.asManyNumbersAsATextCanHave();
        test.eachTextHasItsOwnLimits();
        test.check.end();
    }

    /** "what stands in { } comes any number of times". */
    private void anyNumberOfTimesIsAlsoNone() {
        check.oneLine("code", 1, 0);
        check.oneLine("code" + CROSSING, 1, -1, 1, 2, 3, 4, 0);
        check.oneLine("code" + CROSSING + CROSSING, 1, -1, 1, 2, 3, 4, -1, 1, 2, 3, 4, 0);
        check.oneLine("braid 9", 2, 9);
        check.oneLine("braid 9 1", 2, 9, 1);
        check.oneLine("braid 9 1 -1", 2, 9, 1, -1);
        check.oneLine("jones = 2", 17, 2, 0);
        check.oneLine("jones = 2 + A", 17, 2, 0, 1, 1);
    }

    /** "in ( ) once or not". */
    private void onceOrNot() {
        check.oneLine("code o 5", 1, 5);
        check.faulty("code o 5 o 5", 4, 9);
        check.faulty("code o 5" + CROSSING, 4, 9);
        check.oneLine("braid 1 -2", 2, 1, -2);
        check.faulty("braid 1 - -2", 4, 10);
        check.oneLine("push -2 over -2", 6, -2, 1, -2);
        check.faulty("push --2 over 2", 4, 6);
        check.faulty("push 2 over --2", 4, 13);
        for (int kind = 16; kind <= 18; kind++) {
            String word = kind == 16 ? "bracket" : kind == 17 ? "jones" : "alexander";
            String v = kind == 18 ? "t" : "A";
            int behind = word.length() + 1;
            check.oneLine(word, kind);
            check.faulty(word + " = ", 4, behind + 2);
            check.oneLine(word + " = " + v, kind, 1, 1);
            check.faulty(word + " = " + v + " = " + v, 4, behind + 4);
            check.faulty(word + " = = " + v, 4, behind + 2);
            check.oneLine(word + " = -" + v, kind, -1, 1);
            check.faulty(word + " = --" + v, 4, behind + 3);
            check.faulty(word + " = " + v + " - - " + v, 4, behind + 6);
            check.oneLine(word + " = " + v + "^-2", kind, 1, -2);
            check.faulty(word + " = " + v + "^--2", 4, behind + 5);
            check.faulty(word + " = " + v + "^2^2", 4, behind + 5);
            check.faulty(word + " = 2 2" + v, 4, behind + 4);
            check.faulty(word + " = " + v + " " + v, 4, behind + 4);
        }
    }

    /** "A line has at most 20 crossings"; the one too many begins with its S. */
    private void twentyCrossings() {
        String full = "code" + CROSSING.repeat(20);
        int end = full.length();
        counts("19 crossings", "code" + CROSSING.repeat(19), 96);
        counts("20 crossings", full, 101);
        counts("20 crossings and circles", full + " o 7", 101);
        check.faulty(full + CROSSING, 5, end + 1);
        check.faulty(full + " +[1, 2, 3, 4] o 7", 5, end + 1);
        check.faulty(full + "+", 5, end);
        check.faulty(full + "   -  x", 5, end + 3);
        check.faulty(full + "+00", 5, end);
        check.faulty(full + "\u0001+", 1, end);
        check.faulty(full + " 00 +", 2, end + 1);
        check.faulty(full + " x +", 4, end + 1);
        check.faulty(full + " o 7 +", 4, end + 5);
    }

    /** "32 letters X of a braid"; the one too many begins with its - or its number. */
    private void thirtyTwoLetters() {
        String full = "braid 4" + " 3 -2".repeat(16);
        int end = full.length();
        counts("31 letters", "braid 4" + " -2".repeat(31), 32);
        counts("32 letters", full, 33);
        check.faulty(full + " 1", 5, end + 1);
        check.faulty(full + " 0", 5, end + 1);
        check.faulty(full + " 9999", 5, end + 1);
        check.faulty(full + "-1", 5, end);
        check.faulty(full + "  -", 5, end + 2);
        check.faulty(full + "-10000", 5, end);
        check.faulty(full + " 10000", 2, end + 1);
        check.faulty(full + " 00", 2, end + 1);
        check.faulty(full + " \u0080 1", 1, end + 1);
        check.faulty(full + " + 1", 4, end + 1);
        check.faulty("braid 4" + " 1".repeat(31) + " -", 4, 71);
    }

    /** "or 64 terms"; the one too many begins with its S, the - of the first is none of these. */
    private void sixtyFourTerms() {
        String full = "jones = A" + " - 2".repeat(63);
        int end = full.length();
        counts("63 terms", "jones = A" + " - 2".repeat(62), 126);
        counts("64 terms", full, 128);
        counts("64 terms behind a -", "bracket = -7A^-3" + "+A".repeat(63), 128);
        counts("64 terms in t", "alexander = 3" + " - 2t^4".repeat(63), 128);
        check.faulty(full + " + A", 5, end + 1);
        check.faulty(full + "-", 5, end);
        check.faulty(full + "  + +", 5, end + 2);
        check.faulty(full + "+00", 5, end);
        check.faulty("bracket = -A" + "+A".repeat(63) + "+A", 5, 138);
        check.faulty("alexander = t" + "+t".repeat(63) + "-t", 5, 139);
        check.faulty(full + " A ^ 00", 2, end + 5);
        check.faulty(full + " 7", 4, end + 1);
        check.faulty(full + " 10000", 2, end + 1);
    }

    /** "a text has at most 64 lines"; the one too many begins with its first token. */
    private void sixtyFourLines() {
        String full = "show\n".repeat(64);
        check.due("63 lines", Check.read(new LinkText(), "show\n".repeat(63)), 63);
        check.due("64 lines", Check.read(new LinkText(), full), 64);
        check.due("64 lines, the last without its 10", Check.read(new LinkText(), "show\n".repeat(63) + "show"), 64);
        check.faulty(full + "show", 5, 320);
        check.faulty(full + "\n \n#\n  undo 3", 5, 327);
        check.faulty(full + "undo 00", 5, 320);
        check.faulty(full + "undo", 5, 320);
        check.faulty(full + "undo\u0000", 5, 320);
        check.faulty(full + "shows", 3, 320);
        check.faulty(full + "5", 3, 320);
        check.faulty(full + "05", 2, 320);
        check.faulty(full + "\u007f", 1, 320);
        check.faulty(full + " #\u007f\nshow", 1, 322);
        check.faulty("show\n".repeat(63) + "undo\nshow\nshow", 4, 319);
    }

    /** "Lines without tokens are none": they are not counted, and lines behind them keep their places. */
    private void linesWithoutTokensAreNone() {
        LinkText x = new LinkText();
        check.due("no bytes", Check.read(x, ""), 0);
        check.due("a 10", Check.read(x, "\n"), 0);
        check.due("a space", Check.read(x, " "), 0);
        check.due("a #", Check.read(x, "#"), 0);
        check.due("a # with a line behind it", Check.read(x, "#show"), 0);
        check.due("spaces, a # and a 10", Check.read(x, "   # show \n"), 0);
        check.due("100 empty lines", Check.read(x, "\n".repeat(100)), 0);
        check.due("64 lines, and twice as many without tokens", Check.read(x, " \nshow\n#show\n".repeat(64)), 64);
        check.due("place of the first", x.line(0, 2), 2);
        check.due("place of the last", x.line(63, 2), 63 * 13 + 2);
        check.due("line behind the last", x.line(64, 0), -1);
        LinkText y = new LinkText();
        check.due("a line behind 3,996 empty ones", Check.read(y, "\n".repeat(3996) + "show"), 1);
        check.due("its place", y.line(0, 2), 3996);
        LinkText z = new LinkText();
        check.due("4,000 bytes of comments", Check.read(z, "#\n".repeat(2000)), 0);
    }

    /** A limit counts within its own line. */
    private void eachLineHasItsOwnLimits() {
        LinkText x = new LinkText();
        String code = "code" + CROSSING.repeat(20) + "\n";
        String braid = "braid 4" + " -2".repeat(32) + "\n";
        String jones = "jones = A" + "+A".repeat(63) + "\n";
        check.due("two full lines of each", Check.read(x, code + code + braid + braid + jones + jones), 6);
        int[] sizes = {101, 101, 33, 33, 128, 128};
        for (int k = 0; k < 6; k++) {
            check.due("count of line " + k, x.line(k, 1), sizes[k]);
        }
        int end = code.length() + braid.length();
        check.faulty(code + braid + "braid 4" + " 1".repeat(33), 5, end + 72);
        check.faulty(braid + code + "code" + "+[1,2,3,4]".repeat(21), 5, end + 204);
    }

    /** The longest rows of numbers that fit into 4,000 bytes, line by line. */
    private void asManyNumbersAsATextCanHave() {
        Desk x = new Desk();
        String line = "jones=A" + "-A".repeat(63) + "\n";
        String text = line.repeat(29) + "jones=A" + "-A".repeat(53) + "\n";
        check.due("bytes", text.length(), 4000);
        check.due("read", x.readText(text), 30);
        for (int k = 0; k < 30; k++) {
            int size = k < 29 ? 128 : 108;
            check.due("count of line " + k, x.line(k, 1), size);
            check.due("first number of line " + k, x.number(k, 0), 1);
            check.due("last coefficient of line " + k, x.number(k, size - 2), -1);
            check.due("last exponent of line " + k, x.number(k, size - 1), 1);
            check.due("number behind the last of line " + k, x.number(k, size), 0);
        }
    }

    /** Texts one behind the other, sound and faulty ones, each as full as if it were the first. */
    private void eachTextHasItsOwnLimits() {
        Desk x = new Desk();
        String lines = ("jones=A" + "-A".repeat(62) + "+7A^5\n").repeat(14);
        for (int turn = 0; turn < 4; turn++) {
            check.due("read of a full text", x.readText(lines), 14);
            check.due("last coefficient", x.number(13, 126), 7);
            check.due("last exponent", x.number(13, 127), 5);
            check.due("place of the last line", x.line(13, 2), 13 * lines.length() / 14);
        }
        Desk y = new Desk();
        for (int turn = 0; turn < 4; turn++) {
            check.due("read of a full text", y.readText("show\n".repeat(64)), 64);
            check.due("read of one line too many", y.readText("show\n".repeat(65)), -1);
            check.due("its fault", y.fault(0), 5);
            check.due("its place", y.fault(1), 320);
        }
    }

    private void counts(String what, String text, int numbers) {
        LinkText x = new LinkText();
        check.due("read of " + what, Check.read(x, text), 1);
        check.due("numbers of " + what, x.line(0, 1), numbers);
        check.due("the first of " + what, x.number(0, 0) == 0 ? 0 : 1, 1);
        check.due("the one behind the last of " + what, x.number(0, numbers), 0);
    }
}
