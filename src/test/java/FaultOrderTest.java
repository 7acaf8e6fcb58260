/** Of several faults: the first one by its place, and at one place the lowest. */
public final class FaultOrderTest {
    public static void main(String[] args) {
        Check check = new Check();
        firstByPlace(check);
        lowestAtOnePlace(check);
        check.end();
    }

    private static void firstByPlace(Check check) {
        check.faulty("undo x\u0000", 4, 5);
        check.faulty("und\u0000 x", 3, 0);
        check.faulty("undo 3x 00", 4, 6);
        check.faulty("undo 00 \u0000", 2, 5);
        check.faulty("undo 00\u0000", 2, 5);
        check.faulty("undo \u0000 00", 1, 5);
        check.faulty("undo # \u0000\nxyz", 1, 7);
        check.faulty("undo\n\u0000", 4, 4);
        check.faulty("show # \u0000\nxyz", 1, 7);
        check.faulty("xyz # \u0000", 3, 0);
        check.faulty("show\nxyz\nundo 00\n", 3, 5);
        check.faulty(Check.times(64, "show\n") + "# \u0000\nshow", 1, 322);
        check.faulty(Check.times(64, "show\n") + "show \u0000", 5, 320);
    }

    private static void lowestAtOnePlace(Check check) {
        check.faulty("\u0000", 1, 0);
        check.faulty("undo \u0000", 1, 5);
        check.faulty("undo 3 \u0000", 1, 7);
        check.faulty("00 x", 2, 0);
        check.faulty("10000 x", 2, 0);
        check.faulty("9999 x", 3, 0);
        check.faulty("show 00", 2, 5);
        check.faulty("show 10000", 2, 5);
        check.faulty("show 9999", 4, 5);
        check.faulty("push 1 over - 10000", 2, 14);
        check.faulty("braid 2" + Check.times(32, " 1") + " 10000", 2, 72);
        check.faulty("braid 2" + Check.times(32, " 1") + " 01", 2, 72);
        check.faulty(Check.times(64, "show\n") + "xyz", 3, 320);
        check.faulty(Check.times(64, "show\n") + "00", 2, 320);
        check.faulty(Check.times(64, "show\n") + "7", 3, 320);
        check.faulty(Check.times(64, "show\n") + "\u0000", 1, 320);
    }
}
