import java.util.ArrayList;
import java.util.List;
import java.util.regex.Matcher;
import java.util.regex.Pattern;

/**
 * The document read a second time, in another way: a line's tokens become a row of characters, one
 * a token, and regular expressions say which rows are lines and which may still become one. It
 * prints by laying tokens side by side with the document's rule of spaces.
 */
final class Model {
    private static final String[] WORDS = {"", "code", "braid", "undo", "slide", "twist", "push",
        "simplify", "mirror", "reverse", "change", "smooth", "number", "show", "count", "faces",
        "bracket", "jones", "alexander"};
    private static final String TOKEN = "[a-zA-Z]+|[0-9]+|[^ ]";
    private static final Pattern TERM = Pattern.compile("([+-]?)([0-9]*)([At]?)(?:\\^(-?[0-9]+))?");

    private record Token(String text, int place) {
        boolean isNumber() {
            return Character.isDigit(text.charAt(0));
        }
    }

    private record Line(int kind, int place, List<Long> numbers, String print) {
    }

    private String tape = "";
    private String paper = "";
    private final List<Line> lines = new ArrayList<>();
    private int fault = -1;
    private int faultPlace = -1;

    int feed(int a, int b, int c, int d, int e) {
        if (tape.length() + 20 > 4000) {
            return -1;
        }
        StringBuilder more = new StringBuilder(tape);
        for (int four : new int[] {a, b, c, d, e}) {
            more.append((char) (four >>> 24)).append((char) (four >>> 16 & 255))
                .append((char) (four >>> 8 & 255)).append((char) (four & 255));
        }
        tape = more.toString();
        return tape.length();
    }

    int read(int n) {
        if (n < 0 || n > tape.length()) {
            return -2;
        }
        String text = tape.substring(0, n);
        tape = "";
        lines.clear();
        fault = 0;
        faultPlace = -1;
        int from = 0;
        for (String line : text.split("\n", -1)) {
            if (!readLine(line, from)) {
                lines.clear();
                return -1;
            }
            from += line.length() + 1;
        }
        return lines.size();
    }

    int fault(int what) {
        return what == 0 ? fault : what == 1 ? faultPlace : -1;
    }

    int line(int k, int what) {
        if (k < 0 || k >= lines.size()) {
            return -1;
        }
        Line line = lines.get(k);
        return what == 0 ? line.kind : what == 1 ? line.numbers.size() : what == 2 ? line.place : -1;
    }

    long number(int k, int i) {
        if (k < 0 || k >= lines.size() || i < 0 || i >= lines.get(k).numbers.size()) {
            return 0;
        }
        return lines.get(k).numbers.get(i);
    }

    int print(int k) {
        if (k < 0 || k >= lines.size() || paper.length() + lines.get(k).print.length() > 4000) {
            return -1;
        }
        paper += lines.get(k).print;
        return paper.length();
    }

    int printed(int i) {
        return i < 0 || i >= paper.length() ? -1 : paper.charAt(i);
    }

    int wipe(boolean tape) {
        int wiped = paper.length();
        if (tape) {
            this.tape = paper;
        }
        paper = "";
        return wiped;
    }

    private boolean fail(int kind, int place) {
        fault = kind;
        faultPlace = place;
        return false;
    }

    private boolean readLine(String line, int from) {
        int hash = line.indexOf('#');
        String counts = hash < 0 ? line : line.substring(0, hash);
        List<Token> tokens = new ArrayList<>();
        Matcher matcher = Pattern.compile(TOKEN, Pattern.DOTALL).matcher(counts);
        while (matcher.find()) {
            tokens.add(new Token(matcher.group(), from + matcher.start()));
        }
        for (int i = 0; i < tokens.size(); i++) {
            int kind = faultOf(tokens, i);
            if (kind != 0) {
                return fail(kind, tokens.get(i).place);
            }
        }
        for (int i = counts.length(); i < line.length(); i++) {
            if (!mayBe(line.charAt(i))) {
                return fail(1, from + i);
            }
        }
        if (tokens.isEmpty()) {
            return true;
        }
        int kind = kindOf(tokens.get(0));
        if (!Pattern.matches(grammar(kind, false), row(tokens))) {
            return fail(4, from + line.length());
        }
        lines.add(new Line(kind, tokens.get(0).place, numbersOf(kind, tokens), printOf(kind, tokens)));
        return true;
    }

    private static boolean mayBe(char c) {
        return c == 10 || c >= 32 && c <= 126;
    }

    private int faultOf(List<Token> tokens, int i) {
        Token token = tokens.get(i);
        if (!mayBe(token.text.charAt(0))) {
            return 1;
        }
        if (token.isNumber() && !isSound(token.text, isCoefficient(tokens, i))) {
            return 2;
        }
        int kind = kindOf(tokens.get(0));
        if (i == 0) {
            return kind == 0 ? 3 : lines.size() == 64 ? 5 : 0;
        }
        String row = row(tokens.subList(0, i + 1));
        if (!mayBecome(grammar(kind, false), row)) {
            return 4;
        }
        return mayBecome(grammar(kind, true), row) ? 0 : 5;
    }

    private static boolean isSound(String digits, boolean wide) {
        return digits.length() <= (wide ? 18 : 4) && (digits.length() == 1 || digits.charAt(0) != '0');
    }

    private static boolean isCoefficient(List<Token> tokens, int i) {
        if (kindOf(tokens.get(0)) < 16 || i < 2) {
            return false;
        }
        String before = tokens.get(i - 1).text;
        boolean signed = before.equals("+") || before.equals("-");
        return before.equals("=") || signed && !tokens.get(i - 2).text.equals("^");
    }

    private static int kindOf(Token token) {
        for (int kind = 1; kind < WORDS.length; kind++) {
            if (WORDS[kind].equals(token.text)) {
                return kind;
            }
        }
        return 0;
    }

    private static boolean mayBecome(String grammar, String row) {
        Matcher matcher = Pattern.compile(grammar).matcher(row);
        return matcher.matches() || matcher.hitEnd();
    }

    /** A character a token: n a number, k a word that lines begin with, w an unknown word. */
    private static String row(List<Token> tokens) {
        StringBuilder row = new StringBuilder();
        for (Token token : tokens) {
            row.append(charOf(token));
        }
        return row.toString();
    }

    private static char charOf(Token token) {
        if (token.isNumber()) {
            return 'n';
        }
        if (token.text.equals("over") || token.text.equals("under")) {
            return 'W';
        }
        if (token.text.equals("o") || token.text.equals("A") || token.text.equals("t")) {
            return token.text.charAt(0);
        }
        if (Character.isLetter(token.text.charAt(0))) {
            return kindOf(token) == 0 ? 'w' : 'k';
        }
        return token.text.charAt(0);
    }

    private static String grammar(int kind, boolean limited) {
        switch (kind) {
            case 1: return "k([+-][\\[]n,n,n,n[\\]])" + times(limited, 20) + "(on)?";
            case 2: return "kn(-?n)" + times(limited, 32);
            case 3: case 4: case 9: case 10: case 11: return "kn";
            case 5: return "kn[+-]W";
            case 6: return "k-?nW-?n";
            case 16: case 17: return polynomial("A", limited);
            case 18: return polynomial("t", limited);
            default: return "k";
        }
    }

    private static String times(boolean limited, int most) {
        return limited ? "{0," + most + "}" : "*";
    }

    private static String polynomial(String variable, boolean limited) {
        String term = "(n|n?" + variable + "(\\^-?n)?)";
        return "k(=-?" + term + "([+-]" + term + ")" + times(limited, 63) + ")?";
    }

    private static List<Long> numbersOf(int kind, List<Token> tokens) {
        List<Long> numbers = new ArrayList<>();
        if (kind >= 16) {
            for (Term term : termsOf(tokens)) {
                numbers.add(term.sign.equals("-") ? -term.size : term.size);
                numbers.add(term.exponent);
            }
            return numbers;
        }
        boolean signIsNumber = kind == 1 || kind == 5;
        long sign = 1;
        for (Token token : tokens) {
            char c = charOf(token);
            if (c == 'n') {
                numbers.add(sign * Long.parseLong(token.text));
                sign = 1;
            } else if (c == 'W') {
                numbers.add(token.text.equals("over") ? 1L : 0L);
            } else if ((c == '+' || c == '-') && signIsNumber) {
                numbers.add(c == '-' ? -1L : 1L);
            } else if (c == '-') {
                sign = -1;
            }
        }
        if (kind == 1 && row(tokens).indexOf('o') < 0) {
            numbers.add(0L);
        }
        return numbers;
    }

    private record Term(String sign, long size, long exponent) {
    }

    private static List<Term> termsOf(List<Token> tokens) {
        StringBuilder text = new StringBuilder();
        for (int i = 2; i < tokens.size(); i++) {
            text.append(tokens.get(i).text);
        }
        List<Term> terms = new ArrayList<>();
        Matcher matcher = TERM.matcher(text);
        while (matcher.find() && !matcher.group().isEmpty()) {
            long size = matcher.group(2).isEmpty() ? 1 : Long.parseLong(matcher.group(2));
            long exponent = matcher.group(3).isEmpty() ? 0
                : matcher.group(4) == null ? 1 : Long.parseLong(matcher.group(4));
            terms.add(new Term(matcher.group(1), size, exponent));
        }
        return terms;
    }

    private static String printOf(int kind, List<Token> tokens) {
        List<String> texts = new ArrayList<>();
        for (Token token : tokens) {
            texts.add(token.text);
        }
        int size = texts.size();
        if (kind == 1 && texts.get(size - 1).equals("0")) {
            texts = texts.subList(0, size - 2);
        }
        if (kind >= 16 && size > 1) {
            texts = tokensOf(termsOf(tokens), kind == 18 ? "t" : "A");
            texts.add(0, WORDS[kind]);
            texts.add(1, "=");
        }
        StringBuilder print = new StringBuilder(texts.get(0));
        for (int i = 1; i < texts.size(); i++) {
            print.append(areTogether(kind, texts, i) ? "" : " ").append(texts.get(i));
        }
        return print.append('\n').toString();
    }

    private static List<String> tokensOf(List<Term> terms, String variable) {
        List<String> texts = new ArrayList<>();
        for (Term term : terms) {
            boolean varies = term.exponent != 0;
            if (!term.sign.isEmpty()) {
                texts.add(term.sign);
            }
            if (!varies || term.size != 1) {
                texts.add(Long.toString(term.size));
            }
            if (varies) {
                texts.add(variable);
            }
            if (varies && term.exponent != 1) {
                texts.add("^");
                if (term.exponent < 0) {
                    texts.add("-");
                }
                texts.add(Long.toString(Math.abs(term.exponent)));
            }
        }
        return texts;
    }

    /** Whether there is no space between the tokens i - 1 and i. */
    private static boolean areTogether(int kind, List<String> texts, int i) {
        String left = texts.get(i - 1);
        String right = texts.get(i);
        if (left.equals("[") || left.equals("^") || right.matches("[],^\\[]")) {
            return true;
        }
        if (left.equals("-")) {
            boolean ofTheFirstTerm = texts.get(i - 2).equals("=");
            boolean ofAnExponent = texts.get(i - 2).equals("^");
            return kind == 2 || kind == 6 || ofTheFirstTerm || ofAnExponent;
        }
        return Character.isDigit(left.charAt(0)) && (right.equals("A") || right.equals("t"));
    }
}
