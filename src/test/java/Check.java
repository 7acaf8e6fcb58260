/** Counts the answers that are not due, and drives an object by texts instead of by numbers. */
final class Check {
    private int wrong = 0;

    void due(String call, long got, long want) {
        if (got != want) {
            wrong++;
            System.out.println(call + " answered " + got + ", due is " + want);
        }
    }

    void due(String call, String got, String want) {
        if (!got.equals(want)) {
            wrong++;
            System.out.println(call + " answered \"" + got + "\", due is \"" + want + "\"");
        }
    }

    /** The text is read with this fault at this place. */
    void faulty(String text, int fault, int place) {
        LinkText x = new LinkText();
        due("read of \"" + text + "\"", read(x, text), -1);
        due("fault(0) of \"" + text + "\"", x.fault(0), fault);
        due("fault(1) of \"" + text + "\"", x.fault(1), place);
        due("line(0, 0) of \"" + text + "\"", x.line(0, 0), -1);
    }

    /** The text is one line of this kind with just these numbers. */
    void oneLine(String text, int kind, long... numbers) {
        LinkText x = new LinkText();
        due("read of \"" + text + "\"", read(x, text), 1);
        due("fault(0) of \"" + text + "\"", x.fault(0), 0);
        due("kind of \"" + text + "\"", x.line(0, 0), kind);
        due("count of \"" + text + "\"", x.line(0, 1), numbers.length);
        for (int i = 0; i < numbers.length; i++) {
            due("number(0, " + i + ") of \"" + text + "\"", x.number(0, i), numbers[i]);
        }
        due("number behind the last of \"" + text + "\"", x.number(0, numbers.length), 0);
        due("number ahead of the first of \"" + text + "\"", x.number(0, -1), 0);
    }

    /** The text is one line that is printed so, and reads again as it was. */
    void prints(String text, String want) {
        LinkText x = new LinkText();
        due("read of \"" + text + "\"", read(x, text), 1);
        String numbers = numbers(x, 0);
        due("print of \"" + text + "\"", x.print(0), want.length());
        due("print of \"" + text + "\"", printed(x), want);
        due("wipe(true) of \"" + text + "\"", x.wipe(true), want.length());
        due("read of what was printed of \"" + text + "\"", x.read(want.length()), 1);
        due("numbers of what was printed of \"" + text + "\"", numbers(x, 0), numbers);
    }

    /** Says how it went and ends the program, with exit code 1 if an answer was wrong. */
    void end() {
        System.out.println(wrong == 0 ? "all answers are as due" : wrong + " answers are not as due");
        if (wrong != 0) {
            System.exit(1);
        }
    }

    /** Feeds the text, a character a byte, and reads it; the tape has to be empty. */
    static int read(LinkText x, String text) {
        feed(x, text);
        return x.read(text.length());
    }

    /** Feeds the text with spaces behind it up to the next twenty bytes: the latest answer. */
    static int feed(LinkText x, String text) {
        int answer = 0;
        for (int from = 0; from < text.length(); from += 20) {
            answer = x.feed(four(text, from), four(text, from + 4), four(text, from + 8),
                four(text, from + 12), four(text, from + 16));
        }
        return answer;
    }

    private static int four(String text, int from) {
        int four = 0;
        for (int i = from; i < from + 4; i++) {
            four = four * 256 + (i < text.length() ? text.charAt(i) : ' ');
        }
        return four;
    }

    static String printed(LinkText x) {
        StringBuilder text = new StringBuilder();
        int b = x.printed(0);
        for (int i = 1; b >= 0; i++) {
            text.append((char) b);
            b = x.printed(i);
        }
        return text.toString();
    }

    static String numbers(LinkText x, int k) {
        StringBuilder text = new StringBuilder().append(x.line(k, 0)).append(':');
        for (int i = 0; i < x.line(k, 1); i++) {
            text.append(' ').append(x.number(k, i));
        }
        return text.toString();
    }

    static String times(int n, String text) {
        return text.repeat(n);
    }
}
