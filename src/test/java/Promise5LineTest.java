/** Promise 5: line. */
public final class Promise5LineTest {
    public static void main(String[] args) {
        Check check = new Check();
        LinkText x = new LinkText();
        String text = "# begins\n\n  code o 2\nbraid 3 1 -2\n   \n jones = A + 1 # end\nshow";
        check.due("read", Check.read(x, text), 4);
        row(check, x, 0, 1, 1, 12);
        row(check, x, 1, 2, 3, 21);
        row(check, x, 2, 17, 4, 39);
        row(check, x, 3, 13, 0, 59);
        noSuchLine(check, x);
        theWordsOfAllKinds(check);
        check.end();
    }

    private static void row(Check check, LinkText x, int k, int kind, int count, int place) {
        check.due("line(" + k + ", 0)", x.line(k, 0), kind);
        check.due("line(" + k + ", 1)", x.line(k, 1), count);
        check.due("line(" + k + ", 2)", x.line(k, 2), place);
    }

    private static void noSuchLine(Check check, LinkText x) {
        for (int what = -1; what <= 3; what++) {
            check.due("line(4, " + what + ")", x.line(4, what), -1);
            check.due("line(-1, " + what + ")", x.line(-1, what), -1);
            check.due("line(64, " + what + ")", x.line(64, what), -1);
            check.due("line(most, " + what + ")", x.line(Integer.MAX_VALUE, what), -1);
            check.due("line(least, " + what + ")", x.line(Integer.MIN_VALUE, what), -1);
        }
        check.due("line(0, 3)", x.line(0, 3), -1);
        check.due("line(0, -1)", x.line(0, -1), -1);
        check.due("line(0, most)", x.line(0, Integer.MAX_VALUE), -1);
        check.due("line(0, least)", x.line(0, Integer.MIN_VALUE), -1);
    }

    private static void theWordsOfAllKinds(Check check) {
        String[] lines = {"code", "braid 1", "undo 1", "slide 1", "twist 1 + over", "push 1 over 1",
            "simplify", "mirror", "reverse 1", "change 1", "smooth 1", "number", "show", "count",
            "faces", "bracket", "jones", "alexander"};
        LinkText x = new LinkText();
        check.due("read of all kinds", Check.read(x, String.join("\n", lines)), 18);
        int place = 0;
        for (int k = 0; k < lines.length; k++) {
            check.due("kind of " + lines[k], x.line(k, 0), k + 1);
            check.due("place of " + lines[k], x.line(k, 2), place);
            place += lines[k].length() + 1;
        }
    }
}
