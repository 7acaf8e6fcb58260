/** The boundary cases of tokens and of the paragraph FAULTS. In a pattern, @ stands for a number. */
public final class BoundaryFaultsTest {
    private static final String EIGHTEEN = "999999999999999999";
    private static final String NINETEEN = "1000000000000000000";
    /** Where a number has to be that is no N of a T. */
    private static final String[] NARROW = {"braid @", "undo @", "slide @", "reverse @", "change @",
        "smooth @", "twist @ + over", "push @ over 2", "push -@ over 2", "push 2 under @",
        "push 2 under - @", "code o @", "code +[@, 2, 3, 4]", "code +[1, @, 3, 4]",
        "code -[1, 2, @, 4]", "code +[1, 2, 3, @]", "code +[1, 2, 3, 4] o @", "braid 3 @",
        "braid 3 -@", "braid 3 1 -2 @", "bracket = A^@", "bracket = A^-@", "jones = 2A^@",
        "jones = 1 - A^-@", "alexander = t^@", "alexander = 3 - 2t^-@"};
    /** Where an N of a T may be. */
    private static final String[] WIDE = {"bracket = @", "bracket = -@", "bracket = @A",
        "bracket = -@A^2", "jones = @A", "jones = 1 + @", "jones = A^-2 - @A", "jones = 2A - @",
        "alexander = @t", "alexander = -@ t ^ 2", "alexander = t + @t", "alexander = 1 - @"};
    /** Where no number may be. */
    private static final String[] NONE = {"show @", "simplify @", "mirror @", "number @", "count @",
        "faces @", "undo 3 @", "smooth 3 @", "twist 3 @", "twist 3 + @", "twist 3 + over @",
        "push 3 @", "push 3 over 3 @", "code @", "code + @", "code +[1 @", "code +[1, 2 @",
        "code +[1, 2, 3, 4 @", "code +[1, 2, 3, 4] @", "code o 3 @", "bracket @", "jones @",
        "alexander @", "bracket = 2 @", "jones = A @", "alexander = 2t @", "jones = A^2 @"};
    /** Rows of tokens; a | stands behind the tokens with which the row is a line already. */
    private static final String[] ROWS = {"code | + [ 1 , 2 , 3 , 4 ] | - [ 5 , 6 , 7 , 8 ] | o 9 |",
        "code | o 9 |", "braid 3 | 1 | - 2 | 0 |", "undo 3 |", "slide 3 |", "twist 3 + over |",
        "twist 3 - under |", "push 3 over 4 |", "push - 3 under - 4 |", "simplify |", "mirror |",
        "reverse 3 |", "change 3 |", "smooth 3 |", "number |", "show |", "count |", "faces |",
        "bracket | = - 2 | A | ^ - 3 | + A | - 4 |", "jones | = A | ^ 5 | - 6 | A | + A | ^ - 7 |",
        "alexander | = 2 | t | ^ 3 | - t | + 1 |"};
    private final Check check = new Check();

    public static void main(String[] args) {
        BoundaryFaultsTest test = new BoundaryFaultsTest();
        test.everyByteBehindAWord();
        test.everyByteInANumber();
        test.everyByteAheadOfALine();
        test.everyByteBehindAHash();
        test.theFirstAndTheLastLetter();
        test.spacesEndWordsAndNumbers();
        test.narrowNumbers();
        test.wideNumbers();
        test.numbersWhereNoneMayBe();
        test.wordsThatLinesBeginWith();
        test.rowsThatEndTooEarly();
        test.rowsWithAnotherToken();
        test.theFirstByItsPlace();
        test.theFirstOfSeveralThere();
        test.check.end();
    }

    private static boolean mayBe(int b) {
        return b == 10 || b >= 32 && b <= 126;
    }

    private static boolean isLetter(int b) {
        return "abcdefghijklmnopqrstuvwxyzABCDEFGHIJKLMNOPQRSTUVWXYZ".indexOf(b) >= 0;
    }

    private static boolean isDigit(int b) {
        return "0123456789".indexOf(b) >= 0;
    }

    /** "1: a byte that is not 10 or 32 .. 126, at itself"; letters go on with the word. */
    private void everyByteBehindAWord() {
        for (int b = 0; b < 256; b++) {
            String text = "show" + (char) b;
            if (b == 10 || b == ' ' || b == '#') {
                check.oneLine(text, 13);
            } else if (isLetter(b)) {
                check.faulty(text, 3, 0);
            } else {
                check.faulty(text, mayBe(b) ? 4 : 1, 4);
            }
        }
    }

    /** Digits go on with the number, and nothing else does. */
    private void everyByteInANumber() {
        for (int b = 0; b < 256; b++) {
            String text = "undo 1" + (char) b + "2";
            if (isDigit(b)) {
                check.oneLine(text, 3, 102 + 10 * (b - '0'));
            } else if (b == '#') {
                check.oneLine(text, 3, 1);
            } else if (b == ' ') {
                check.faulty(text, 4, 7);
            } else if (b == 10) {
                check.faulty(text, 3, 7);
            } else {
                check.faulty(text, mayBe(b) ? 4 : 1, 6);
            }
        }
    }

    /** The first byte of a text: what is no letter is a token alone, or none. */
    private void everyByteAheadOfALine() {
        for (int b = 0; b < 256; b++) {
            String text = (char) b + " show";
            if (b == 10 || b == ' ') {
                check.oneLine(text, 13);
            } else if (b == '#') {
                check.due("read of \"# show\"", Check.read(new LinkText(), text), 0);
            } else {
                check.faulty(text, mayBe(b) ? 3 : 1, 0);
            }
        }
    }

    /** "(behind a #, too)": with a line ahead of the #, and with none. */
    private void everyByteBehindAHash() {
        for (int b = 0; b < 256; b++) {
            String comment = "# a" + (char) b;
            if (mayBe(b)) {
                check.oneLine("show " + comment, 13);
                check.oneLine(comment + "\nshow", 13);
            } else {
                check.faulty("show " + comment, 1, 8);
                check.faulty(comment + "\nshow", 1, 3);
                check.faulty("show #" + (char) b, 1, 6);
                check.faulty("undo " + comment, 1, 8);
            }
        }
    }

    /** "rows of letters a .. z and A .. Z, as long as they go". */
    private void theFirstAndTheLastLetter() {
        for (String letter : new String[] {"a", "z", "A", "Z"}) {
            check.faulty("twist 3 + over" + letter, 4, 10);
            check.faulty("jones = A" + letter, 4, 8);
            check.faulty("code o" + letter + " 3", 4, 5);
        }
        // The bytes just outside of the letters and of the digits are tokens alone.
        for (String mark : new String[] {"`", "{", "@", "[", "/", ":"}) {
            check.faulty("twist 3 + over" + mark, 4, 14);
            check.faulty("jones = A" + mark, 4, 9);
            check.faulty("undo 0" + mark, 4, 6);
            check.faulty("undo 9" + mark, 4, 6);
        }
        check.oneLine("undo 0", 3, 0);
        check.oneLine("undo 9", 3, 9);
    }

    /** "nor do spaces (32) but that they end words and numbers". */
    private void spacesEndWordsAndNumbers() {
        check.oneLine("braid 12 34", 2, 12, 34);
        check.oneLine("braid 1 2 3 4", 2, 1, 2, 3, 4);
        check.oneLine("braid 1234", 2, 1234);
        check.oneLine("     braid     1     -     2     ", 2, 1, -2);
        check.oneLine("braid1-2", 2, 1, -2);
        check.faulty("bra id 1", 3, 0);
        check.faulty("twist 3 + ov er", 4, 10);
        check.faulty("undo 1 2", 4, 7);
        check.faulty("jones = A 2", 4, 10);
        check.oneLine("jones = 0 A", 17, 0, 1);
        check.oneLine("braid 0 0", 2, 0, 0);
        check.faulty("braid 00", 2, 6);
    }

    private void faultyNumber(String pattern, String number) {
        check.faulty(pattern.replace("@", number), 2, pattern.indexOf('@'));
    }

    private void soundNumber(String pattern, String number) {
        String text = pattern.replace("@", number);
        LinkText x = new LinkText();
        check.due("read of \"" + text + "\"", Check.read(x, text), 1);
        long wanted = Long.parseLong(number);
        boolean found = false;
        for (int i = 0; i < x.line(0, 1); i++) {
            found = found || Math.abs(x.number(0, i)) == wanted;
        }
        check.due("the number is found in \"" + text + "\"", found ? 1 : 0, 1);
    }

    /** "or that is above 9999 and no N of a T", and what is wrong with every number. */
    private void narrowNumbers() {
        for (String pattern : NARROW) {
            for (String number : new String[] {"0", "1", "9", "10", "999", "1000", "9998", "9999"}) {
                soundNumber(pattern, number);
            }
            faultyNumber(pattern, "10000");
            faultyNumber(pattern, "10001");
            faultyNumber(pattern, "99999");
            // 2 to the 16th, to the 32nd and more: not to be told from low numbers by their last bits.
            faultyNumber(pattern, "65536");
            faultyNumber(pattern, "4294967297");
            faultyNumber(pattern, EIGHTEEN);
            misshapenNumbers(pattern);
        }
    }

    /** "an N of a T" may be above 9999, with 18 digits at most. */
    private void wideNumbers() {
        for (String pattern : WIDE) {
            for (String number : new String[] {"0", "1", "9", "10", "9999", "10000", "2147483648",
                "4294967297", "10000000000000000", "99999999999999999", "100000000000000000", EIGHTEEN}) {
                soundNumber(pattern, number);
            }
            misshapenNumbers(pattern);
        }
    }

    /** "more than 18 digits, or begins with a 0 and has more than one". */
    private void misshapenNumbers(String pattern) {
        faultyNumber(pattern, NINETEEN);
        faultyNumber(pattern, "9999999999999999999");
        faultyNumber(pattern, "18446744073709551617");
        faultyNumber(pattern, "36893488147419103233");
        faultyNumber(pattern, "1" + "0".repeat(64));
        faultyNumber(pattern, "00");
        faultyNumber(pattern, "01");
        faultyNumber(pattern, "09999");
        faultyNumber(pattern, "010000");
        faultyNumber(pattern, "0" + EIGHTEEN.substring(1));
        faultyNumber(pattern, "0" + EIGHTEEN);
        faultyNumber(pattern, "0".repeat(40));
    }

    /** A number has its own fault where it may not be, too; a sound one is told as a token there. */
    private void numbersWhereNoneMayBe() {
        for (String pattern : NONE) {
            int place = pattern.indexOf('@');
            check.faulty(pattern.replace("@", "0"), 4, place);
            check.faulty(pattern.replace("@", "9999"), 4, place);
            faultyNumber(pattern, "10000");
            faultyNumber(pattern, EIGHTEEN);
            misshapenNumbers(pattern);
        }
        check.faulty("0", 3, 0);
        check.faulty("show\n9999", 3, 5);
        faultyNumber("@", "10000");
        faultyNumber("show\n @", "10000");
        misshapenNumbers("@ show");
    }

    /** "3: no word that a line begins with, at the first token of one." */
    private void wordsThatLinesBeginWith() {
        for (String row : ROWS) {
            String line = row.replace("| ", "").replace(" |", "");
            int end = (line + " ").indexOf(' ');
            String word = line.substring(0, end);
            String rest = line.substring(end);
            check.due("read of \"" + line + "\"", Check.read(new LinkText(), line), 1);
            check.faulty("  " + word.substring(1) + rest, 3, 2);
            check.faulty("\n" + word.substring(0, end - 1) + rest, 3, 1);
            check.faulty(word + "s" + rest, 3, 0);
            check.faulty("s" + word + rest, 3, 0);
            check.faulty(word.substring(0, 1).toUpperCase() + word.substring(1) + rest, 3, 0);
            check.faulty(word.substring(0, end - 1) + "Z" + rest, 3, 0);
            check.faulty("show # " + line + "\n " + rest + " x", 3, startOf("show # " + line + "\n ", rest));
        }
        for (String token : new String[] {"over", "under", "o", "A", "t", "x", "+", "-", "[", "=", "~", "!", "0", "7"}) {
            check.faulty(token, 3, 0);
            check.faulty("show\n\n  " + token, 3, 8);
        }
    }

    private static int startOf(String ahead, String rest) {
        return ahead.length() + (rest.startsWith(" ") || rest.isEmpty() ? 1 : 0);
    }

    /** "4: .. a line's end (its 10, or the text's length, also behind a #)". */
    private void rowsThatEndTooEarly() {
        for (String row : ROWS) {
            StringBuilder line = new StringBuilder();
            String[] parts = row.split(" ");
            for (int i = 0; i < parts.length; i++) {
                if (parts[i].equals("|")) {
                    continue;
                }
                line.append(i == 0 ? "" : " ").append(parts[i]);
                boolean whole = i + 1 < parts.length && parts[i + 1].equals("|");
                endsHere(line.toString(), whole);
            }
        }
    }

    private void endsHere(String line, boolean whole) {
        int end = line.length();
        if (whole) {
            for (String behind : new String[] {"", "  ", "\n", "#", " # x", "#\n"}) {
                check.due("read of \"" + line + behind + "\"", Check.read(new LinkText(), line + behind), 1);
            }
            return;
        }
        check.faulty(line, 4, end);
        check.faulty(line + "  ", 4, end + 2);
        check.faulty(line + "\n", 4, end);
        check.faulty(line + "  \nshow", 4, end + 2);
        check.faulty(line + "#", 4, end + 1);
        check.faulty(line + " # 1 ] A over", 4, end + 13);
        check.faulty(line + " # 1 ] A over\n", 4, end + 13);
        check.faulty(line + "#\n1", 4, end + 1);
    }

    /** "4: a token .. where something else has to be": at each place of a row, and behind it. */
    private void rowsWithAnotherToken() {
        for (String row : ROWS) {
            String line = row.replace("| ", "").replace(" |", "");
            for (int at = line.indexOf(' '); at >= 0; at = line.indexOf(' ', at + 1)) {
                wrongTokensAt(line.substring(0, at + 1), line.substring(at));
            }
            wrongTokensAt(line + " ", "");
        }
    }

    private void wrongTokensAt(String ahead, String rest) {
        for (String token : new String[] {"!", "~", ".", "x", "show", "_", "(", "{", "*", "]]"}) {
            if (token.equals("]]") && rest.startsWith(" ]")) {
                check.faulty(ahead + token + rest, 4, ahead.length() + 1);
            } else {
                check.faulty(ahead + token + rest, 4, ahead.length());
            }
        }
    }

    /** "the first one by its PLACE": of two faults side by side, in both orders. */
    private void theFirstByItsPlace() {
        check.faulty("undo 00\u0000", 2, 5);
        check.faulty("undo \u000000", 1, 5);
        check.faulty("undo !\u0000", 4, 5);
        check.faulty("undo \u0000!", 1, 5);
        check.faulty("undo !00", 4, 5);
        check.faulty("undo 00!", 2, 5);
        check.faulty("undo #\u0000\n", 1, 6);
        check.faulty("undo\n#\u0000", 4, 4);
        check.faulty("undo#\n\u0000", 4, 5);
        check.faulty("shows\u0000", 3, 0);
        check.faulty("\u0000shows", 1, 0);
        check.faulty("show!\nshows", 4, 4);
        check.faulty("shows\nshow!", 3, 0);
        check.faulty("#\u0000\nshows", 1, 1);
        check.faulty("undo 3 #\u0000\nundo 00", 1, 8);
        check.faulty("undo 00 #\u0000", 2, 5);
        String braid = "braid 3" + " 1".repeat(32);
        check.faulty(braid + " 1 00", 5, 72);
        check.faulty(braid + " 00 1", 2, 72);
        check.faulty(braid + " 1 \u0000", 5, 72);
        check.faulty(braid + " ! 1", 4, 72);
    }

    /** "of several there the first of these". */
    private void theFirstOfSeveralThere() {
        String full = "show\n".repeat(64);
        String braid = "braid 3" + " 1".repeat(32);
        check.faulty("\u0000", 1, 0);
        check.faulty("undo \u0000", 1, 5);
        check.faulty(full + "\u0000", 1, 320);
        check.faulty("00", 2, 0);
        check.faulty("show 00", 2, 5);
        check.faulty(full + "00", 2, 320);
        check.faulty(braid + " 00", 2, 72);
        check.faulty(full + "0", 3, 320);
        check.faulty(full + "shows", 3, 320);
    }
}
