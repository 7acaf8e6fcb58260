import java.util.Arrays;
import java.util.Random;

/** Runs of calls with made-up texts, each answer held against that of the model. */
public final class ModelTest {
    private static final int RUNS = 2500;
    private static final int CALLS = 512;
    private static final String[] WORDS = {"code", "braid", "undo", "slide", "twist", "push",
        "simplify", "mirror", "reverse", "change", "smooth", "number", "show", "count", "faces",
        "bracket", "jones", "alexander", "over", "under", "o", "A", "t", "x", "codeo", "AA"};
    private static final String MARKS = "+-[],=^#\n .:@~\t\u0000\u007f\u0080\u00ff0123456789Aato";

    private final Check check = new Check();
    private final Random random;
    private final LinkText x = new LinkText();
    private final Model model = new Model();
    private final StringBuilder log = new StringBuilder();
    private int calls = 0;
    private static int soundReads = 0;
    private static int[] faults = new int[6];

    private ModelTest(int seed) {
        random = new Random(seed);
    }

    public static void main(String[] args) {
        for (int seed = 0; seed < RUNS; seed++) {
            new ModelTest(seed).run();
        }
        System.out.println("texts without a fault " + soundReads + ", faults " + Arrays.toString(faults));
        Check seen = new Check();
        seen.due("many texts without a fault were read", soundReads > RUNS ? 1 : 0, 1);
        for (int fault = 1; fault <= 5; fault++) {
            seen.due("fault " + fault + " was met often", faults[fault] > RUNS / 10 ? 1 : 0, 1);
        }
        seen.end();
    }

    private void run() {
        // The longest step has some fifty calls, and nothing is promised behind the 512th.
        while (calls < CALLS - 50) {
            switch (random.nextInt(8)) {
                case 0: case 1: case 2: feedAndRead(); break;
                case 3: askFaultAndLines(); break;
                case 4: case 5: askPrinted(); break;
                case 6: printSome(); break;
                default: wipe(); break;
            }
        }
    }

    private void due(String call, long got, long want) {
        calls++;
        log.append(call).append(" -> ").append(want).append('\n');
        if (got != want) {
            System.out.println(log);
            check.due(call, got, want);
            check.end();
        }
    }

    private void feedAndRead() {
        String text = text();
        log.append("text: ").append(text).append('\n');
        int fed = 0;
        for (int from = 0; from < text.length() && calls < CALLS - 3; from += 20) {
            int[] f = new int[5];
            for (int i = 0; i < 20; i++) {
                int at = from + i;
                f[i / 4] = f[i / 4] << 8 | (at < text.length() ? text.charAt(at) : ' ');
            }
            int want = model.feed(f[0], f[1], f[2], f[3], f[4]);
            due("feed", x.feed(f[0], f[1], f[2], f[3], f[4]), want);
            fed = Math.max(fed, want);
        }
        int n = random.nextInt(20) == 0 ? random.nextInt(4100) - 50
            : random.nextInt(4) == 0 ? fed : Math.min(fed, text.length());
        int want = model.read(n);
        due("read(" + n + ")", x.read(n), want);
        due("fault(0)", x.fault(0), model.fault(0));
        due("fault(1)", x.fault(1), model.fault(1));
        soundReads += want > 0 ? 1 : 0;
        faults[Math.max(0, model.fault(0))]++;
    }

    private void askFaultAndLines() {
        for (int i = 0; i < 6; i++) {
            int k = random.nextInt(8) - 1;
            int what = random.nextInt(5) - 1;
            due("line(" + k + ", " + what + ")", x.line(k, what), model.line(k, what));
            int size = Math.max(0, model.line(k, 1));
            int at = random.nextInt(size + 3) - 1;
            due("number(" + k + ", " + at + ")", x.number(k, at), model.number(k, at));
        }
        int what = random.nextInt(5) - 2;
        due("fault(" + what + ")", x.fault(what), model.fault(what));
    }

    private void printSome() {
        for (int i = 0; i < 5; i++) {
            int k = random.nextInt(6) - 1;
            due("print(" + k + ")", x.print(k), model.print(k));
        }
    }

    private void askPrinted() {
        int k = random.nextInt(3);
        int before = Math.max(0, model.print(k));
        due("print(" + k + ")", x.print(k), before == 0 ? -1 : before);
        int from = Math.max(0, before - 40);
        for (int i = from; i <= from + 41; i++) {
            due("printed(" + i + ")", x.printed(i), model.printed(i));
        }
    }

    private void wipe() {
        boolean tape = random.nextBoolean();
        int want = model.wipe(tape);
        due("wipe(" + tape + ")", x.wipe(tape), want);
        if (tape) {
            int read = model.read(want);
            due("read(" + want + ")", x.read(want), read);
        }
    }

    private String text() {
        StringBuilder text = new StringBuilder();
        int lines = random.nextInt(15) == 0 ? 62 + random.nextInt(5) : random.nextInt(4);
        for (int i = 0; i < lines; i++) {
            text.append(lines > 10 ? "show" : lineOfTokens());
            if (random.nextInt(8) == 0) {
                text.append(" # ").append(random.nextInt(5) == 0 ? "\u0007" : "a #");
            }
            text.append(random.nextInt(9) == 0 ? "\n \n" : "\n");
        }
        if (random.nextInt(3) == 0) {
            mutate(text);
        }
        return text.toString();
    }

    private void mutate(StringBuilder text) {
        int at = random.nextInt(text.length() + 1);
        String piece = random.nextInt(3) == 0 ? WORDS[random.nextInt(WORDS.length)]
            : String.valueOf(MARKS.charAt(random.nextInt(MARKS.length())));
        int until = Math.min(text.length(), at + random.nextInt(2));
        text.replace(at, until, piece);
    }

    private String lineOfTokens() {
        String word = WORDS[random.nextInt(18)];
        switch (word) {
            case "code": return "code" + crossings() + (random.nextBoolean() ? "" : " o" + space() + number());
            case "braid": return "braid " + number() + letters();
            case "twist": return "twist " + number() + sign() + level();
            case "push": return "push " + signed() + " " + level() + space() + signed();
            case "bracket": case "jones": return word + polynomial("A");
            case "alexander": return word + polynomial("t");
            case "undo": case "slide": case "reverse": case "change": case "smooth": return word + space() + number();
            default: return word;
        }
    }

    private int many(int most) {
        return random.nextInt(8) == 0 ? most - 1 + random.nextInt(3) : random.nextInt(5);
    }

    private String crossings() {
        StringBuilder text = new StringBuilder();
        for (int i = many(20); i > 0; i--) {
            text.append(sign()).append('[').append(number()).append(space()).append(',').append(number())
                .append(',').append(space()).append(number()).append(',').append(number()).append(']');
        }
        return text.toString();
    }

    private String letters() {
        StringBuilder text = new StringBuilder();
        for (int i = many(32); i > 0; i--) {
            text.append(' ').append(signed());
        }
        return text.toString();
    }

    private String polynomial(String variable) {
        if (random.nextInt(4) == 0) {
            return "";
        }
        StringBuilder text = new StringBuilder("=").append(random.nextBoolean() ? "-" : "").append(term(variable));
        for (int i = many(64); i > 1; i--) {
            text.append(sign()).append(term(variable));
        }
        return text.toString();
    }

    private String term(String variable) {
        String n = random.nextInt(15) == 0 ? Long.toString(1L << random.nextInt(62)) : number();
        switch (random.nextInt(5)) {
            case 0: return n;
            case 1: return variable;
            case 2: return n + space() + variable;
            case 3: return variable + "^" + signed();
            default: return n + variable + space() + "^" + space() + signed();
        }
    }

    private String number() {
        int sort = random.nextInt(400);
        if (sort == 0) {
            return "0" + random.nextInt(3);
        }
        if (sort == 1) {
            return Integer.toString(9998 + random.nextInt(4));
        }
        return Integer.toString(random.nextInt(sort < 40 ? 9999 : 4));
    }

    private String signed() {
        return (random.nextInt(3) == 0 ? "-" + space() : "") + number();
    }

    private String sign() {
        return space() + (random.nextBoolean() ? "+" : "-") + space();
    }

    private String level() {
        return random.nextBoolean() ? "over" : "under";
    }

    private String space() {
        return " ".repeat(random.nextInt(3));
    }
}
