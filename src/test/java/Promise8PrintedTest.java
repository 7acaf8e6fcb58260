/** Promise 8: printed. */
public final class Promise8PrintedTest {
    public static void main(String[] args) {
        Check check = new Check();
        LinkText x = new LinkText();
        check.due("printed(0) of nothing", x.printed(0), -1);
        Check.read(x, "undo 3");
        check.due("printed(0) behind a read", x.printed(0), -1);
        x.print(0);
        int[] bytes = {'u', 'n', 'd', 'o', ' ', '3', 10};
        for (int i = 0; i < bytes.length; i++) {
            check.due("printed(" + i + ")", x.printed(i), bytes[i]);
        }
        check.due("printed(7)", x.printed(7), -1);
        check.due("printed(-1)", x.printed(-1), -1);
        check.due("printed(4000)", x.printed(4000), -1);
        check.due("printed(most)", x.printed(Integer.MAX_VALUE), -1);
        check.due("printed(least)", x.printed(Integer.MIN_VALUE), -1);
        x.wipe(false);
        check.due("printed(0) behind wipe", x.printed(0), -1);
        theLastByte(check);
        check.end();
    }

    private static void theLastByte(Check check) {
        LinkText x = new LinkText();
        Check.read(x, "code +[12, 3, 4, 5]");
        for (int i = 0; i < 200; i++) {
            x.print(0);
        }
        check.due("printed(3998)", x.printed(3998), ']');
        check.due("printed(3999)", x.printed(3999), 10);
        check.due("printed(4000)", x.printed(4000), -1);
    }
}
