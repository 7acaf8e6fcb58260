/** Promise 6: number, with the numbers of each kind. */
public final class Promise6NumberTest {
    public static void main(String[] args) {
        Check check = new Check();
        codesAndBraids(check);
        moves(check);
        questions(check);
        polynomials(check);
        noSuchNumber(check);
        check.end();
    }

    private static void codesAndBraids(Check check) {
        check.oneLine("code", 1, 0);
        check.oneLine("code o 0", 1, 0);
        check.oneLine("code o 7", 1, 7);
        check.oneLine("code +[1,2,3,4]", 1, 1, 1, 2, 3, 4, 0);
        check.oneLine("code -[1,2,3,4]+[50,600,7000,0]o2", 1, -1, 1, 2, 3, 4, 1, 50, 600, 7000, 0, 2);
        check.oneLine("braid 3", 2, 3);
        check.oneLine("braid 3 1 -2 0 -9999", 2, 3, 1, -2, 0, -9999);
        check.oneLine("braid 3 -0", 2, 3, 0);
    }

    private static void moves(Check check) {
        check.oneLine("undo 3", 3, 3);
        check.oneLine("slide 4", 4, 4);
        check.oneLine("reverse 9", 9, 9);
        check.oneLine("change 10", 10, 10);
        check.oneLine("smooth 11", 11, 11);
        check.oneLine("twist 7 + over", 5, 7, 1, 1);
        check.oneLine("twist 7 - under", 5, 7, -1, 0);
        check.oneLine("push -5 over 4", 6, -5, 1, 4);
        check.oneLine("push 5 under - 4", 6, 5, 0, -4);
        check.oneLine("push -0 under -0", 6, 0, 0, 0);
        check.oneLine("simplify", 7);
        check.oneLine("mirror", 8);
    }

    private static void questions(Check check) {
        check.oneLine("number", 12);
        check.oneLine("show", 13);
        check.oneLine("count", 14);
        check.oneLine("faces", 15);
        check.oneLine("bracket", 16);
        check.oneLine("jones", 17);
        check.oneLine("alexander", 18);
    }

    private static void polynomials(Check check) {
        check.oneLine("bracket = 5", 16, 5, 0);
        check.oneLine("bracket = -5", 16, -5, 0);
        check.oneLine("bracket = A", 16, 1, 1);
        check.oneLine("bracket = -A", 16, -1, 1);
        check.oneLine("bracket = 3A", 16, 3, 1);
        check.oneLine("bracket = A^7", 16, 1, 7);
        check.oneLine("bracket = 3 A ^ - 7", 16, 3, -7);
        check.oneLine("bracket = A^0 - A^-0 + 2A^1", 16, 1, 0, -1, 0, 2, 1);
        check.oneLine("bracket = 0 - 0A - 0A^4", 16, 0, 0, 0, 1, 0, 4);
        check.oneLine("bracket = -0", 16, 0, 0);
        check.oneLine("jones = -A^16+A^12+A^4", 17, -1, 16, 1, 12, 1, 4);
        check.oneLine("alexander = t^2 - 3t + 1", 18, 1, 2, -3, 1, 1, 0);
        check.oneLine("jones = A + A", 17, 1, 1, 1, 1);
    }

    private static void noSuchNumber(Check check) {
        LinkText x = new LinkText();
        Check.read(x, "braid 3 1 2\nundo 8");
        check.due("number(0, 2)", x.number(0, 2), 2);
        check.due("number(0, 3)", x.number(0, 3), 0);
        check.due("number(1, 0)", x.number(1, 0), 8);
        check.due("number(1, -1)", x.number(1, -1), 0);
        check.due("number(2, 0)", x.number(2, 0), 0);
        check.due("number(-1, 0)", x.number(-1, 0), 0);
        check.due("number(64, 0)", x.number(64, 0), 0);
        check.due("number(0, most)", x.number(0, Integer.MAX_VALUE), 0);
        check.due("number(1, most)", x.number(1, Integer.MAX_VALUE), 0);
        check.due("number(0, least)", x.number(0, Integer.MIN_VALUE), 0);
        check.due("number(most, 0)", x.number(Integer.MAX_VALUE, 0), 0);
        check.due("number(least, 0)", x.number(Integer.MIN_VALUE, 0), 0);
    }
}
