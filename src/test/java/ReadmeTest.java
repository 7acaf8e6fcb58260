import java.io.IOException;
import java.nio.charset.StandardCharsets;
import java.nio.file.Files;
import java.nio.file.Path;
import java.util.List;
import java.util.regex.Matcher;
import java.util.regex.Pattern;

/** What README.md shows is what the class answers: its example, its lines and its faults. */
public final class ReadmeTest {
    private static final Pattern CALL = Pattern.compile("x\\.(\\w+)\\((.*)\\); +// (-?\\d+)(:.*)?");
    private static final Pattern LINE = Pattern.compile("\\| (\\d+) \\| `([^`]+)` \\|((?: -?\\d+)*) \\|");
    private static final Pattern FAULT = Pattern.compile("\\| (\\d) \\| [^|`]+ \\| `([^`]+)` \\| (\\d+) \\|");
    private final Check check = new Check();
    private final List<String> readme;

    private ReadmeTest(List<String> readme) {
        this.readme = readme;
    }

    public static void main(String[] args) throws IOException {
        // A character a byte, as a text of the class is.
        ReadmeTest test = new ReadmeTest(Files.readAllLines(Path.of("README.md"), StandardCharsets.ISO_8859_1));
        test.example();
        test.lines();
        test.faults();
        test.check.end();
    }

    private void example() {
        int from = readme.indexOf("LinkText x = new LinkText();");
        check.due("the example in README.md is there", from >= 0 ? 1 : 0, 1);
        Desk x = new Desk();
        StringBuilder names = new StringBuilder();
        for (int at = from + 1; from >= 0 && !readme.get(at).equals("```"); at++) {
            Matcher call = CALL.matcher(readme.get(at));
            check.due("a call and its answer in \"" + readme.get(at) + "\"", call.matches() ? 1 : 0, 1);
            if (call.matches()) {
                names.append(call.group(1)).append(' ');
                long want = Long.parseLong(call.group(3));
                check.due(readme.get(at), answer(x, call.group(1), call.group(2).split(", ")), want);
            }
        }
        for (String name : new String[] {"feed", "read", "fault", "line", "number", "print", "printed", "wipe"}) {
            check.due("calls of " + name + " in the example", names.indexOf(name + " ") >= 0 ? 1 : 0, 1);
        }
    }

    private static long answer(Desk x, String name, String[] given) {
        if (name.equals("wipe")) {
            return x.wipe(given[0].equals("true"));
        }
        int[] n = new int[given.length];
        for (int i = 0; i < n.length; i++) {
            n[i] = Integer.decode(given[i]);
        }
        switch (name) {
            case "feed": return x.feed(n[0], n[1], n[2], n[3], n[4]);
            case "read": return x.read(n[0]);
            case "fault": return x.fault(n[0]);
            case "line": return x.line(n[0], n[1]);
            case "number": return x.number(n[0], n[1]);
            case "print": return x.print(n[0]);
            case "printed": return x.printed(n[0]);
            default: throw new IllegalArgumentException("no such call: " + name);
        }
    }

    private void lines() {
        boolean[] shown = new boolean[19];
        for (String row : readme) {
            Matcher line = LINE.matcher(row);
            if (line.matches()) {
                LinkText x = new LinkText();
                check.due("lines of " + line.group(2), Check.read(x, line.group(2)), 1);
                check.due(line.group(2), Check.numbers(x, 0), line.group(1) + ":" + line.group(3));
                check.prints(line.group(2), line.group(2) + "\n");
                shown[Integer.parseInt(line.group(1))] = true;
            }
        }
        for (int kind = 1; kind <= 18; kind++) {
            check.due("lines of kind " + kind + " in README.md", shown[kind] ? 1 : 0, 1);
        }
    }

    private void faults() {
        boolean[] shown = new boolean[6];
        for (String row : readme) {
            Matcher fault = FAULT.matcher(row);
            if (fault.matches()) {
                int kind = Integer.parseInt(fault.group(1));
                check.faulty(fault.group(2), kind, Integer.parseInt(fault.group(3)));
                shown[kind] = true;
            }
        }
        for (int kind = 1; kind <= 5; kind++) {
            check.due("faults " + kind + " in README.md", shown[kind] ? 1 : 0, 1);
        }
    }
}
