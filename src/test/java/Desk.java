/** An object whose calls are counted: nothing is promised behind the 512th, so no test goes there. */
final class Desk {
    private static final int MOST_CALLS = 512;
    private final LinkText x = new LinkText();
    private int calls = 0;

    private void count() {
        calls++;
        if (calls > MOST_CALLS) {
            throw new IllegalStateException("a test makes more calls than are promised");
        }
    }

    int calls() {
        return calls;
    }

    int feed(int a, int b, int c, int d, int e) {
        count();
        return x.feed(a, b, c, d, e);
    }

    int read(int n) {
        count();
        return x.read(n);
    }

    int fault(int what) {
        count();
        return x.fault(what);
    }

    int line(int k, int what) {
        count();
        return x.line(k, what);
    }

    long number(int k, int i) {
        count();
        return x.number(k, i);
    }

    int print(int k) {
        count();
        return x.print(k);
    }

    int printed(int i) {
        count();
        return x.printed(i);
    }

    int wipe(boolean tape) {
        count();
        return x.wipe(tape);
    }

    /** Feeds the text, a character a byte, with spaces behind it up to the next twenty bytes. */
    int feedText(String text) {
        int answer = 0;
        for (int from = 0; from < text.length(); from += 20) {
            int[] fours = new int[5];
            for (int i = 0; i < 20; i++) {
                int at = from + i;
                fours[i / 4] = fours[i / 4] << 8 | (at < text.length() ? text.charAt(at) : ' ');
            }
            answer = feed(fours[0], fours[1], fours[2], fours[3], fours[4]);
        }
        return answer;
    }

    int readText(String text) {
        feedText(text);
        return read(text.length());
    }

    /** All that can be seen without a change: the fault, the lines, and what was printed. */
    String seen() {
        StringBuilder seen = new StringBuilder("fault " + fault(0) + " " + fault(1) + "; lines");
        for (int k = 0; line(k, 0) >= 0; k++) {
            seen.append(" (").append(line(k, 0)).append(" at ").append(line(k, 2)).append(':');
            int size = line(k, 1);
            for (int i = 0; i < size; i++) {
                seen.append(' ').append(number(k, i));
            }
            seen.append(')');
        }
        return seen.append("; printed ").append(paper(0)).toString();
    }

    /** What was printed, from a byte on. */
    String paper(int from) {
        StringBuilder text = new StringBuilder();
        int b = printed(from);
        for (int i = from + 1; b >= 0; i++) {
            text.append((char) b);
            b = printed(i);
        }
        return text.toString();
    }

    /** A code of twenty crossings that is printed as it stands here, in so many bytes. */
    static String lineOf(int length) {
        int more = length - "code\n".length() - 20 * " +[1, 2, 3, 4]".length();
        if (more < 0 || more > 20 * 12) {
            throw new IllegalArgumentException("no such line");
        }
        StringBuilder line = new StringBuilder("code");
        for (int i = 0; i < 20; i++) {
            for (int j = 0; j < 4; j++) {
                int zeros = Math.min(more, 3);
                more -= zeros;
                line.append(j == 0 ? " +[" : ", ").append(j + 1).append("0".repeat(zeros));
            }
            line.append(']');
        }
        return line.append('\n').toString();
    }
}
