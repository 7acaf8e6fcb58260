/** Promise 1: nothing on the tape, no lines, nothing printed. */
public final class Promise1NewObjectTest {
    public static void main(String[] args) {
        Check check = new Check();
        check.due("fault(0)", new LinkText().fault(0), -1);
        check.due("fault(1)", new LinkText().fault(1), -1);
        check.due("line(0, 0)", new LinkText().line(0, 0), -1);
        check.due("line(0, 1)", new LinkText().line(0, 1), -1);
        check.due("line(0, 2)", new LinkText().line(0, 2), -1);
        check.due("number(0, 0)", new LinkText().number(0, 0), 0);
        check.due("print(0)", new LinkText().print(0), -1);
        check.due("printed(0)", new LinkText().printed(0), -1);
        check.due("wipe(false)", new LinkText().wipe(false), 0);
        check.due("wipe(true)", new LinkText().wipe(true), 0);
        check.due("read(1)", new LinkText().read(1), -2);
        check.due("read(0)", new LinkText().read(0), 0);
        check.due("feed", new LinkText().feed(0, 0, 0, 0, 0), 20);
        objectsAreApart(check);
        check.end();
    }

    private static void objectsAreApart(Check check) {
        LinkText full = new LinkText();
        Check.read(full, "show");
        full.print(0);
        LinkText x = new LinkText();
        check.due("print(0) beside another object", x.print(0), -1);
        check.due("printed(0) beside another object", x.printed(0), -1);
        check.due("fault(0) beside another object", x.fault(0), -1);
        check.due("printed(0) of the other object", full.printed(0), 's');
    }
}
