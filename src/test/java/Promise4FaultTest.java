/** Promise 4: fault, with each of the five faults and its place. */
public final class Promise4FaultTest {
    public static void main(String[] args) {
        Check check = new Check();
        tellsOfTheLatestRead(check);
        badBytes(check);
        badNumbers(check);
        wideNumbers(check);
        noBeginnings(check);
        unexpectedTokens(check);
        unexpectedEnds(check);
        tooMany(check);
        check.end();
    }

    private static void tellsOfTheLatestRead(Check check) {
        LinkText x = new LinkText();
        check.due("fault(0) ahead of all", x.fault(0), -1);
        check.due("fault(1) ahead of all", x.fault(1), -1);
        check.due("read(1)", x.read(1), -2);
        check.due("fault(0) behind a -2 alone", x.fault(0), -1);
        Check.read(x, "show 5");
        check.due("fault(0)", x.fault(0), 4);
        check.due("fault(1)", x.fault(1), 5);
        check.due("fault(2)", x.fault(2), -1);
        check.due("fault(-1)", x.fault(-1), -1);
        check.due("fault(most)", x.fault(Integer.MAX_VALUE), -1);
        check.due("fault(least)", x.fault(Integer.MIN_VALUE), -1);
        check.due("read(-1)", x.read(-1), -2);
        check.due("fault(0) behind a -2", x.fault(0), 4);
        check.due("fault(1) behind a -2", x.fault(1), 5);
        Check.read(x, "show");
        check.due("fault(0) without one", x.fault(0), 0);
        check.due("fault(1) without one", x.fault(1), -1);
        check.due("fault(2) without one", x.fault(2), -1);
        check.due("read(9)", x.read(9), -2);
        check.due("fault(0) without one, behind a -2", x.fault(0), 0);
    }

    private static void badBytes(Check check) {
        check.faulty("\t", 1, 0);
        check.faulty("show\r\n", 1, 4);
        check.faulty("show \u0000", 1, 5);
        check.faulty("show \u001f", 1, 5);
        check.faulty("show \u007f", 1, 5);
        check.faulty("show \u0080", 1, 5);
        check.faulty("show \u00ff", 1, 5);
        check.faulty("show # ~\t", 1, 8);
        check.faulty("#\u00e9\nshow", 1, 1);
        check.faulty("show\n\n  # \u0001", 1, 10);
        check.faulty("undo # \t", 1, 7);
        check.faulty("undo 3\t", 1, 6);
        // 126 and 32 may be: here a token is what is wrong.
        check.faulty("show ~", 4, 5);
    }

    private static void badNumbers(Check check) {
        check.faulty("undo 00", 2, 5);
        check.faulty("undo 01", 2, 5);
        check.faulty("undo 10000", 2, 5);
        check.faulty("undo 1234567890123456789", 2, 5);
        check.faulty("undo 0000000000000000000", 2, 5);
        check.faulty("braid 10000", 2, 6);
        check.faulty("braid 3 -10000", 2, 9);
        check.faulty("braid 3 - 007", 2, 10);
        check.faulty("code +[1,2,3,10000]", 2, 13);
        check.faulty("code o 10000", 2, 7);
        check.faulty("push 1 over -10000", 2, 13);
        check.faulty("push 1 over 10000", 2, 12);
        check.faulty("push 10000 over 1", 2, 5);
        check.faulty("push 1 10000 1", 2, 7);
        check.faulty("twist 3 10000", 2, 8);
        check.faulty("twist 3 + 10000", 2, 10);
        check.faulty("code + 10000", 2, 7);
        check.faulty("code +[10000,2,3,4]", 2, 7);
        check.faulty("code +[1,10000,3,4]", 2, 9);
        check.faulty("code +[1,2,3,4] 10000", 2, 16);
        check.faulty("braid 3 1 10000", 2, 10);
        check.faulty("undo 3 10000", 2, 7);
        check.faulty("show\n\n10000", 2, 6);
        check.faulty("jones = A^10000", 2, 10);
        check.faulty("jones = A^-10000", 2, 11);
        check.oneLine("undo 9999", 3, 9999);
        check.oneLine("undo 0", 3, 0);
        check.oneLine("jones = A^-9999", 17, 1, -9999);
    }

    private static void wideNumbers(Check check) {
        check.oneLine("jones = 10000", 17, 10000, 0);
        check.oneLine("jones = 999999999999999999", 17, 999999999999999999L, 0);
        check.oneLine("jones = -999999999999999999A - 999999999999999999", 17,
            -999999999999999999L, 1, -999999999999999999L, 0);
        check.oneLine("alexander = t + 100000 t", 18, 1, 1, 100000, 1);
        check.faulty("jones = 1000000000000000000", 2, 8);
        check.faulty("jones = -1000000000000000000", 2, 9);
        check.faulty("jones = 1 + 1000000000000000000", 2, 12);
        check.faulty("jones = 01", 2, 8);
        check.faulty("jones = 1 - 00A", 2, 12);
        check.faulty("jones = 2 10000", 2, 10);
        check.faulty("jones = A 10000", 2, 10);
        check.faulty("jones 10000", 2, 6);
        check.faulty("jones = 5A^2 10000", 2, 13);
    }

    private static void noBeginnings(Check check) {
        check.faulty("shows", 3, 0);
        check.faulty("Show", 3, 0);
        check.faulty("sho w", 3, 0);
        check.faulty("\n  5", 3, 3);
        check.faulty("show\n=", 3, 5);
        check.faulty("A", 3, 0);
        check.faulty("over", 3, 0);
        check.faulty("o 3", 3, 0);
        check.faulty("mirror\nmirrormirror", 3, 7);
        for (String letter : new String[] {"a", "z", "A", "Z"}) {
            check.faulty("show" + letter, 3, 0);
        }
        for (String noLetter : new String[] {"`", "{", "@", "[", "0", "9", "/", ":"}) {
            check.faulty("show" + noLetter, 4, 4);
        }
    }

    private static void unexpectedTokens(Check check) {
        check.faulty("show show", 4, 5);
        check.faulty("undo x", 4, 5);
        check.faulty("undo -3", 4, 5);
        check.faulty("undo 3 4", 4, 7);
        check.faulty("code 3", 4, 5);
        check.faulty("code [1,2,3,4]", 4, 5);
        check.faulty("code + 1,2,3,4]", 4, 7);
        check.faulty("code +[-1,2,3,4]", 4, 7);
        check.faulty("code +[1 2,3,4]", 4, 9);
        check.faulty("code +[1,2,3]", 4, 12);
        check.faulty("code +[1,2,3,4,5]", 4, 14);
        check.faulty("code o 3 +[1,2,3,4]", 4, 9);
        check.faulty("code o -3", 4, 7);
        check.faulty("code O 3", 4, 5);
        check.faulty("code oo 3", 4, 5);
        check.faulty("braid -3", 4, 6);
        check.faulty("braid 3 +1", 4, 8);
        check.faulty("braid 3 --1", 4, 9);
        check.faulty("braid 3 1,2", 4, 9);
        check.faulty("twist -3 + over", 4, 6);
        check.faulty("twist 3 over", 4, 8);
        check.faulty("twist 3 + Over", 4, 10);
        check.faulty("twist 3 + overunder", 4, 10);
        check.faulty("twist 3 + over 1", 4, 15);
        check.faulty("push +5 over 4", 4, 5);
        check.faulty("push 5 4", 4, 7);
        check.faulty("push 5 over under", 4, 12);
        check.faulty("push 5 over +4", 4, 12);
        check.faulty("jones A", 4, 6);
        check.faulty("jones = + A", 4, 8);
        check.faulty("jones = - - A", 4, 10);
        check.faulty("jones = t", 4, 8);
        check.faulty("jones = AA", 4, 8);
        check.faulty("jones = a", 4, 8);
        check.faulty("bracket = 3t", 4, 11);
        check.faulty("alexander = A", 4, 12);
        check.faulty("alexander = 2T", 4, 13);
        check.faulty("jones = 3^2", 4, 9);
        check.faulty("jones = A3", 4, 9);
        check.faulty("jones = A^+3", 4, 10);
        check.faulty("jones = A^A", 4, 10);
        check.faulty("jones = A^2^3", 4, 11);
        check.faulty("jones = A A", 4, 10);
        check.faulty("jones = = A", 4, 8);
        check.faulty("simplify = A", 4, 9);
    }

    private static void unexpectedEnds(Check check) {
        check.faulty("undo", 4, 4);
        check.faulty("undo  ", 4, 6);
        check.faulty("undo\nshow", 4, 4);
        check.faulty("undo # 3\nshow", 4, 8);
        check.faulty("undo # 3", 4, 8);
        check.faulty("code +", 4, 6);
        check.faulty("code +[1,2,3,4", 4, 14);
        check.faulty("code o", 4, 6);
        check.faulty("braid", 4, 5);
        check.faulty("braid 3 -\n", 4, 9);
        check.faulty("twist 3 -", 4, 9);
        check.faulty("push 5 over", 4, 11);
        check.faulty("push 5 over -", 4, 13);
        check.faulty("jones =", 4, 7);
        check.faulty("jones = -", 4, 9);
        check.faulty("jones = A +", 4, 11);
        check.faulty("jones = A^", 4, 10);
        check.faulty("jones = A^- #A\n", 4, 14);
    }

    private static void tooMany(Check check) {
        check.faulty("code" + Check.times(20, "+[1,2,3,4]") + " -[1,2,3,4]", 5, 205);
        check.faulty("code" + Check.times(20, "+[1,2,3,4]") + " + +", 5, 205);
        check.faulty("braid 2" + Check.times(32, " 1") + " 1", 5, 72);
        check.faulty("braid 2" + Check.times(32, " 1") + " -1", 5, 72);
        check.faulty("braid 2" + Check.times(32, " 1") + " - o", 5, 72);
        check.faulty("jones = A" + Check.times(63, "+A") + " +A", 5, 136);
        check.faulty("jones = -A" + Check.times(63, "+A") + "-", 5, 136);
        check.faulty(Check.times(64, "show\n") + "\n show", 5, 322);
        check.faulty(Check.times(64, "show\n") + "show show", 5, 320);
        // At the limit, what else is wrong is told as ever.
        check.faulty("code" + Check.times(20, "+[1,2,3,4]") + " 5", 4, 205);
        check.faulty("braid 2" + Check.times(32, " 1") + " +", 4, 72);
        check.faulty("jones = A" + Check.times(63, "+A") + " 5", 4, 136);
    }
}
