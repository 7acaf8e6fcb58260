/** Promise 7: print. */
public final class Promise7PrintTest {
    public static void main(String[] args) {
        Check check = new Check();
        codesAndBraids(check);
        movesAndQuestions(check);
        polynomials(check);
        theMinusOfAZero(check);
        behindWhatWasPrinted(check);
        noSuchLine(check);
        atMostFourThousand(check);
        check.end();
    }

    private static void codesAndBraids(Check check) {
        check.prints("code", "code\n");
        check.prints("code o 0", "code\n");
        check.prints("code o3", "code o 3\n");
        check.prints("code+[1,2,3,4]", "code +[1, 2, 3, 4]\n");
        check.prints("code - [ 10 ,20, 3,0 ]+[5,6,7,9999] o 12", "code -[10, 20, 3, 0] +[5, 6, 7, 9999] o 12\n");
        check.prints("code +[1,2,3,4] o 0", "code +[1, 2, 3, 4]\n");
        check.prints("braid 3", "braid 3\n");
        check.prints("braid3 1-2 - 3 0", "braid 3 1 -2 -3 0\n");
    }

    private static void movesAndQuestions(Check check) {
        check.prints("  undo  3  # three", "undo 3\n");
        check.prints("slide 0", "slide 0\n");
        check.prints("reverse 10", "reverse 10\n");
        check.prints("change 9999", "change 9999\n");
        check.prints("smooth 100", "smooth 100\n");
        check.prints("twist 3+over", "twist 3 + over\n");
        check.prints("twist 3-under", "twist 3 - under\n");
        check.prints("push - 5 over 4", "push -5 over 4\n");
        check.prints("push 5under-4", "push 5 under -4\n");
        for (String word : new String[] {"simplify", "mirror", "number", "show", "count", "faces",
            "bracket", "jones", "alexander"}) {
            check.prints(word, word + "\n");
        }
    }

    private static void polynomials(Check check) {
        check.prints("bracket=A", "bracket = A\n");
        check.prints("bracket = - A", "bracket = -A\n");
        check.prints("bracket = 1", "bracket = 1\n");
        check.prints("bracket = -1", "bracket = -1\n");
        check.prints("bracket = 1A", "bracket = A\n");
        check.prints("bracket = 1 A ^ 1", "bracket = A\n");
        check.prints("bracket = A^0", "bracket = 1\n");
        check.prints("bracket = -A^-0", "bracket = -1\n");
        check.prints("bracket = 7A^0", "bracket = 7\n");
        check.prints("bracket = 0A^0+0A+0A^2", "bracket = 0 + 0A + 0A^2\n");
        check.prints("bracket = 3A^-1", "bracket = 3A^-1\n");
        check.prints("bracket = -3 A^ - 4+5-A-1A^2+2 A", "bracket = -3A^-4 + 5 - A - A^2 + 2A\n");
        check.prints("jones=-A^16+A^12+A^4", "jones = -A^16 + A^12 + A^4\n");
        check.prints("alexander=t^2-3t+1", "alexander = t^2 - 3t + 1\n");
        check.prints("jones = 999999999999999999A^9999 - 100000000000000000",
            "jones = 999999999999999999A^9999 - 100000000000000000\n");
    }

    /** The tokens are printed, and nothing says that this - is left out. */
    private static void theMinusOfAZero(Check check) {
        check.prints("braid 3 -0 0", "braid 3 -0 0\n");
        check.prints("push -0 over 0", "push -0 over 0\n");
        check.prints("jones = -0", "jones = -0\n");
        check.prints("jones = 1 - 0A^2 - 0 + 0", "jones = 1 - 0A^2 - 0 + 0\n");
    }

    private static void behindWhatWasPrinted(Check check) {
        LinkText x = new LinkText();
        Check.read(x, "undo 3\nshow\nbraid 2 1");
        check.due("print(1)", x.print(1), 5);
        check.due("print(0)", x.print(0), 12);
        check.due("print(1) again", x.print(1), 17);
        check.due("what was printed", Check.printed(x), "show\nundo 3\nshow\n");
        Check.read(x, "faces");
        check.due("print(0) of another text", x.print(0), 23);
        check.due("what was printed", Check.printed(x), "show\nundo 3\nshow\nfaces\n");
        Check.read(x, "fault");
        check.due("what was printed, behind a fault", Check.printed(x), "show\nundo 3\nshow\nfaces\n");
    }

    private static void noSuchLine(Check check) {
        LinkText x = new LinkText();
        check.due("print(0) of none", x.print(0), -1);
        Check.read(x, "undo 3\nshow");
        x.print(1);
        check.due("print(2)", x.print(2), -1);
        check.due("print(-1)", x.print(-1), -1);
        check.due("print(64)", x.print(64), -1);
        check.due("print(most)", x.print(Integer.MAX_VALUE), -1);
        check.due("print(least)", x.print(Integer.MIN_VALUE), -1);
        check.due("what was printed", Check.printed(x), "show\n");
    }

    private static void atMostFourThousand(Check check) {
        LinkText x = new LinkText();
        String twenty = "code +[12, 3, 4, 5]\n";
        Check.read(x, twenty + "code +[12, 3, 4, 56]\nshow");
        for (int there = 20; there <= 3980; there += 20) {
            check.due("print(0)", x.print(0), there);
        }
        check.due("print(1) with room for 20", x.print(1), -1);
        check.due("printed(3980)", x.printed(3980), -1);
        check.due("print(2) with room for 20", x.print(2), 3985);
        check.due("print(0) with room for 15", x.print(0), -1);
        check.due("print(2) with room for 15", x.print(2), 3990);
        check.due("print(2) with room for 10", x.print(2), 3995);
        check.due("print(2) with room for 5", x.print(2), 4000);
        check.due("print(2) without room", x.print(2), -1);
        for (int i = 0; i < 20; i++) {
            check.due("printed(" + (3960 + i) + ")", x.printed(3960 + i), twenty.charAt(i));
            check.due("printed(" + (3980 + i) + ")", x.printed(3980 + i), "show\n".charAt(i % 5));
        }
        check.due("wipe(false)", x.wipe(false), 4000);
        check.due("print(1) with room again", x.print(1), 21);
        check.due("what was printed", Check.printed(x), "code +[12, 3, 4, 56]\n");
    }
}
