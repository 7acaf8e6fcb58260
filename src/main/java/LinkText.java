/**
 * The text of a link engine: bytes come to a tape, are read as lines of numbers, and lines are
 * printed again. No call throws: what cannot be done is answered by a number of its own.
 */
public final class LinkText {
    private static final int MOST_BYTES = 4000;
    private static final int BYTES_OF_A_FEED = 20;
    private static final int MOST_LINES = 64;
    private static final int MOST_CROSSINGS = 20;
    private static final int MOST_LETTERS = 32;
    private static final int MOST_TERMS = 64;
    private static final int MOST_DIGITS = 18;
    private static final long HIGHEST_UNIT = 100000000000000000L;
    private static final long MOST_OF_A_NARROW_NUMBER = 9999;

    private static final int CODE = 1;
    private static final int BRAID = 2;
    private static final int UNDO = 3;
    private static final int SLIDE = 4;
    private static final int TWIST = 5;
    private static final int PUSH = 6;
    private static final int SIMPLIFY = 7;
    private static final int MIRROR = 8;
    private static final int REVERSE = 9;
    private static final int CHANGE = 10;
    private static final int SMOOTH = 11;
    private static final int NUMBER = 12;
    private static final int SHOW = 13;
    private static final int COUNT = 14;
    private static final int FACES = 15;
    private static final int BRACKET = 16;
    private static final int JONES = 17;
    private static final int ALEXANDER = 18;
    private static final int LAST_KIND = 18;
    private static final int NO_KIND = 0;

    private static final int NO_FAULT = 0;
    private static final int BAD_BYTE = 1;
    private static final int BAD_NUMBER = 2;
    private static final int NO_BEGINNING = 3;
    private static final int UNEXPECTED = 4;
    private static final int TOO_MANY = 5;

    /**
     * Stands for a 0 behind a -, which counts as 0 but is printed with the - that the line has.
     * It has more digits than a number that is read, and like all behind a - it is below 0.
     */
    private static final long MINUS_ZERO = -1000000000000000000L;

    private final ByteRow tape = new ByteRow();
    private final ByteRow paper = new ByteRow();
    private final Lines lines = new Lines();
    private final Reader reader = new Reader(tape, lines);
    private final Printer printer = new Printer(paper, lines);
    private boolean everRead = false;

    public LinkText() {
    }

    public int feed(int a, int b, int c, int d, int e) {
        if (tape.count > MOST_BYTES - BYTES_OF_A_FEED) {
            return -1;
        }
        feedFour(a);
        feedFour(b);
        feedFour(c);
        feedFour(d);
        feedFour(e);
        return tape.count;
    }

    private void feedFour(int four) {
        for (int shift = 24; shift >= 0; shift -= 8) {
            tape.add(four >> shift);
        }
    }

    public int read(int n) {
        if (n < 0 || n > tape.count) {
            return -2;
        }
        everRead = true;
        reader.begin(n);
        // One turn more than there may be lines, so that the line too many is found.
        for (int turn = 0; turn <= MOST_LINES && reader.findLine(); turn++) {
            reader.readLine();
        }
        tape.cutTo(0);
        if (reader.fault != NO_FAULT) {
            lines.clear();
            return -1;
        }
        return lines.count;
    }

    public int fault(int what) {
        if (!everRead) {
            return -1;
        }
        switch (what) {
            case 0:
                return reader.fault;
            case 1:
                return reader.faultPlace;
            default:
                return -1;
        }
    }

    public int line(int k, int what) {
        if (!lines.has(k)) {
            return -1;
        }
        switch (what) {
            case 0:
                return lines.kindOf(k);
            case 1:
                return lines.sizeOf(k);
            case 2:
                return lines.placeOf(k);
            default:
                return -1;
        }
    }

    public long number(int k, int i) {
        return valueOf(lines.storedAt(k, i));
    }

    public int print(int k) {
        if (!lines.has(k)) {
            return -1;
        }
        int before = paper.count;
        printer.putLine(k);
        if (paper.overrun) {
            paper.cutTo(before);
            return -1;
        }
        return paper.count;
    }

    public int printed(int i) {
        return paper.byteAt(i);
    }

    public int wipe(boolean tape) {
        int wiped = paper.count;
        if (tape) {
            this.tape.copy(paper);
        }
        paper.cutTo(0);
        return wiped;
    }

    private static String wordOf(int kind) {
        switch (kind) {
            case CODE: return "code";
            case BRAID: return "braid";
            case UNDO: return "undo";
            case SLIDE: return "slide";
            case TWIST: return "twist";
            case PUSH: return "push";
            case SIMPLIFY: return "simplify";
            case MIRROR: return "mirror";
            case REVERSE: return "reverse";
            case CHANGE: return "change";
            case SMOOTH: return "smooth";
            case NUMBER: return "number";
            case SHOW: return "show";
            case COUNT: return "count";
            case FACES: return "faces";
            case BRACKET: return "bracket";
            case JONES: return "jones";
            case ALEXANDER: return "alexander";
            default: return "";
        }
    }

    private static String variableOf(int kind) {
        return kind == ALEXANDER ? "t" : "A";
    }

    private static long storedOf(long size, boolean minus) {
        if (!minus) {
            return size;
        }
        return size == 0 ? MINUS_ZERO : -size;
    }

    private static long valueOf(long stored) {
        return stored == MINUS_ZERO ? 0 : stored;
    }

    /** A row of bytes that stays within its room: what finds no room is left out and remembered. */
    private static final class ByteRow {
        private final byte[] bytes = new byte[MOST_BYTES];
        private int count = 0;
        private boolean overrun = false;

        void add(int lowByte) {
            if (count >= bytes.length) {
                overrun = true;
                return;
            }
            bytes[count] = (byte) lowByte;
            count++;
        }

        void cutTo(int length) {
            count = length;
            overrun = false;
        }

        int byteAt(int i) {
            return i < 0 || i >= count ? -1 : bytes[i] & 255;
        }

        void copy(ByteRow other) {
            System.arraycopy(other.bytes, 0, bytes, 0, other.count);
            cutTo(other.count);
        }
    }

    /** The lines of the latest text; the numbers of all of them stand in one row, line by line. */
    private static final class Lines {
        private final int[] kinds = new int[MOST_LINES];
        private final int[] places = new int[MOST_LINES];
        private final int[] firsts = new int[MOST_LINES];
        private final int[] sizes = new int[MOST_LINES];
        // Enough for every text: each number has a byte of its own (that of a term's second
        // number is the S or the = ahead, that of missing circles is in the word code).
        private final long[] numbers = new long[MOST_BYTES];
        private int count = 0;
        private int numberCount = 0;

        void clear() {
            count = 0;
            numberCount = 0;
        }

        void open(int kind, int place) {
            if (count >= MOST_LINES) {
                return;
            }
            kinds[count] = kind;
            places[count] = place;
            firsts[count] = numberCount;
            sizes[count] = 0;
            count++;
        }

        void add(long stored) {
            if (count < 1 || numberCount >= numbers.length) {
                return;
            }
            numbers[numberCount] = stored;
            numberCount++;
            sizes[count - 1]++;
        }

        boolean has(int k) {
            return k >= 0 && k < count;
        }

        int kindOf(int k) {
            return has(k) ? kinds[k] : NO_KIND;
        }

        int sizeOf(int k) {
            return has(k) ? sizes[k] : 0;
        }

        int placeOf(int k) {
            return has(k) ? places[k] : -1;
        }

        long storedAt(int k, int i) {
            if (i < 0 || i >= sizeOf(k)) {
                return 0;
            }
            int at = firsts[k] + i;
            return at < numbers.length ? numbers[at] : 0;
        }
    }

    /** One token of a text at a time, with the fault that it has wherever it may stand. */
    private static final class Tokens {
        private static final int LINE_END = 0;
        private static final int WORD = 1;
        private static final int DIGITS = 2;
        private static final int MARK = 3;
        private static final int SPACE = 4;
        private static final int HASH = 5;
        private static final int FAULTY = 6;

        private final byte[] text;
        private int end = 0;
        private int sort = LINE_END;
        private int place = 0;
        private int behind = 0;
        private long value = 0;
        private int fault = NO_FAULT;

        Tokens(ByteRow row) {
            text = row.bytes;
        }

        void begin(int length) {
            end = length >= 0 && length <= text.length ? length : 0;
            sort = LINE_END;
            place = 0;
            behind = 0;
            value = 0;
            fault = NO_FAULT;
        }

        /** Goes on to the next token; wide says that a number there is the N of a T. */
        void next(boolean wide) {
            int at = behind;
            while (at < end && sortAt(at) == SPACE) {
                at++;
            }
            if (sortAt(at) == HASH) {
                // A byte that may not be counts behind a # as well, so it is a token there, too.
                while (at < end && sortAt(at) != LINE_END && sortAt(at) != FAULTY) {
                    at++;
                }
            }
            place = at;
            sort = sortAt(at);
            behind = at < end ? at + 1 : end;
            while ((sort == WORD || sort == DIGITS) && behind < end && sortAt(behind) == sort) {
                behind++;
            }
            fault = sort == FAULTY ? BAD_BYTE : NO_FAULT;
            if (sort == DIGITS) {
                weigh(wide);
            }
        }

        private int sortAt(int at) {
            if (at < 0 || at >= end) {
                return LINE_END;
            }
            int b = text[at];
            if (b == '\n') {
                return LINE_END;
            }
            if (b < ' ' || b > '~') {
                return FAULTY;
            }
            if (b == ' ') {
                return SPACE;
            }
            if (b == '#') {
                return HASH;
            }
            if (b >= '0' && b <= '9') {
                return DIGITS;
            }
            boolean letter = b >= 'a' && b <= 'z' || b >= 'A' && b <= 'Z';
            return letter ? WORD : MARK;
        }

        private void weigh(boolean wide) {
            int digits = behind - place;
            boolean beginsWithZero = place < end && text[place] == '0';
            value = 0;
            // Cut off at the digits that a long can hold; a longer number is faulty anyway.
            for (int at = place; at < end && at < behind && at < place + MOST_DIGITS; at++) {
                value = value * 10 + (text[at] - '0');
            }
            boolean misshapen = digits > MOST_DIGITS || beginsWithZero && digits > 1;
            if (misshapen || !wide && value > MOST_OF_A_NARROW_NUMBER) {
                sort = FAULTY;
                fault = BAD_NUMBER;
            }
        }

        boolean isLineEnd() {
            return sort == LINE_END;
        }

        boolean isTextEnd() {
            return sort == LINE_END && place >= end;
        }

        boolean isNumber() {
            return sort == DIGITS;
        }

        boolean isMark(char mark) {
            return sort == MARK && place < end && text[place] == mark;
        }

        boolean isWord(String word) {
            if (sort != WORD || behind > end || behind - place != word.length()) {
                return false;
            }
            for (int i = 0; i < word.length(); i++) {
                if (text[place + i] != word.charAt(i)) {
                    return false;
                }
            }
            return true;
        }

        boolean isSign() {
            return isMark('+') || isMark('-');
        }
    }

    /**
     * Reads a text from left to right, so that the first fault it meets is the first by its place.
     * A method named take.. goes behind what it takes, or tells the fault and answers false.
     */
    private static final class Reader {
        private final Tokens tokens;
        private final Lines lines;
        private int fault = NO_FAULT;
        private int faultPlace = -1;

        Reader(ByteRow text, Lines lines) {
            this.tokens = new Tokens(text);
            this.lines = lines;
        }

        void begin(int length) {
            tokens.begin(length);
            lines.clear();
            fault = NO_FAULT;
            faultPlace = -1;
        }

        /** Goes on to the first token of the next line that has one, if there is such a line. */
        boolean findLine() {
            if (fault != NO_FAULT) {
                return false;
            }
            // A text begins as if a line had ended ahead of it, so there is one end more than bytes.
            for (int ends = 0; ends <= MOST_BYTES && tokens.isLineEnd() && !tokens.isTextEnd(); ends++) {
                tokens.next(false);
            }
            return !tokens.isLineEnd();
        }

        void readLine() {
            int kind = openLine();
            boolean taken;
            switch (kind) {
                case NO_KIND:
                    taken = false;
                    break;
                case CODE:
                    taken = takeCode();
                    break;
                case BRAID:
                    taken = takeBraid();
                    break;
                case UNDO: case SLIDE: case REVERSE: case CHANGE: case SMOOTH:
                    taken = takeNumber();
                    break;
                case TWIST:
                    taken = takeNumber() && takeSign() && takeLevel();
                    break;
                case PUSH:
                    taken = takeSigned() && takeLevel() && takeSigned();
                    break;
                case BRACKET: case JONES: case ALEXANDER:
                    taken = takePolynomial(variableOf(kind));
                    break;
                default:
                    taken = true;
                    break;
            }
            if (taken && !tokens.isLineEnd()) {
                fail(UNEXPECTED);
            }
        }

        private int openLine() {
            int kind = kindHere();
            if (kind == NO_KIND) {
                fail(NO_BEGINNING);
                return NO_KIND;
            }
            if (lines.count >= MOST_LINES) {
                fail(TOO_MANY);
                return NO_KIND;
            }
            lines.open(kind, tokens.place);
            tokens.next(false);
            return kind;
        }

        private int kindHere() {
            for (int kind = 1; kind <= LAST_KIND; kind++) {
                if (tokens.isWord(wordOf(kind))) {
                    return kind;
                }
            }
            return NO_KIND;
        }

        /** Always answers false. The token's own fault comes ahead of what the grammar says. */
        private boolean fail(int kind) {
            fault = tokens.fault != NO_FAULT ? tokens.fault : kind;
            faultPlace = tokens.place;
            return false;
        }

        private boolean takeCode() {
            for (int crossings = 0; crossings <= MOST_CROSSINGS && tokens.isSign(); crossings++) {
                if (crossings == MOST_CROSSINGS) {
                    return fail(TOO_MANY);
                }
                if (!takeCrossing()) {
                    return false;
                }
            }
            if (!tokens.isWord("o")) {
                lines.add(0);
                return true;
            }
            tokens.next(false);
            return takeNumber();
        }

        private boolean takeCrossing() {
            return takeSign()
                && takeMark('[') && takeNumber()
                && takeMark(',') && takeNumber()
                && takeMark(',') && takeNumber()
                && takeMark(',') && takeNumber()
                && takeMark(']');
        }

        private boolean takeBraid() {
            if (!takeNumber()) {
                return false;
            }
            for (int letters = 0; letters <= MOST_LETTERS; letters++) {
                if (!tokens.isNumber() && !tokens.isMark('-')) {
                    return true;
                }
                if (letters == MOST_LETTERS) {
                    return fail(TOO_MANY);
                }
                if (!takeSigned()) {
                    return false;
                }
            }
            return true;
        }

        private boolean takePolynomial(String variable) {
            if (!tokens.isMark('=')) {
                return true;
            }
            tokens.next(true);
            boolean minus = tokens.isMark('-');
            if (minus) {
                tokens.next(true);
            }
            for (int terms = 1; terms <= MOST_TERMS; terms++) {
                if (!takeTerm(minus, variable)) {
                    return false;
                }
                if (!tokens.isSign()) {
                    return true;
                }
                if (terms == MOST_TERMS) {
                    return fail(TOO_MANY);
                }
                minus = tokens.isMark('-');
                tokens.next(true);
            }
            return true;
        }

        private boolean takeTerm(boolean minus, String variable) {
            boolean counted = tokens.isNumber();
            lines.add(storedOf(counted ? tokens.value : 1, minus));
            if (counted) {
                tokens.next(false);
            }
            if (!tokens.isWord(variable)) {
                lines.add(0);
                return counted || fail(UNEXPECTED);
            }
            tokens.next(false);
            if (!tokens.isMark('^')) {
                lines.add(1);
                return true;
            }
            tokens.next(false);
            return takeSigned();
        }

        private boolean takeMark(char mark) {
            if (!tokens.isMark(mark)) {
                return fail(UNEXPECTED);
            }
            tokens.next(false);
            return true;
        }

        private boolean takeNumber() {
            if (!tokens.isNumber()) {
                return fail(UNEXPECTED);
            }
            lines.add(tokens.value);
            tokens.next(false);
            return true;
        }

        private boolean takeSigned() {
            boolean minus = tokens.isMark('-');
            if (minus) {
                tokens.next(false);
            }
            if (!tokens.isNumber()) {
                return fail(UNEXPECTED);
            }
            lines.add(storedOf(tokens.value, minus));
            tokens.next(false);
            return true;
        }

        private boolean takeSign() {
            if (!tokens.isSign()) {
                return fail(UNEXPECTED);
            }
            lines.add(tokens.isMark('-') ? -1 : 1);
            tokens.next(false);
            return true;
        }

        private boolean takeLevel() {
            boolean over = tokens.isWord("over");
            if (!over && !tokens.isWord("under")) {
                return fail(UNEXPECTED);
            }
            lines.add(over ? 1 : 0);
            tokens.next(false);
            return true;
        }
    }

    /** Writes lines to a row of bytes, which itself tells when it has no room. */
    private static final class Printer {
        private final ByteRow paper;
        private final Lines lines;

        Printer(ByteRow paper, Lines lines) {
            this.paper = paper;
            this.lines = lines;
        }

        void putLine(int k) {
            int kind = lines.kindOf(k);
            putText(wordOf(kind));
            switch (kind) {
                case CODE:
                    putCode(k);
                    break;
                case BRAID: case UNDO: case SLIDE: case REVERSE: case CHANGE: case SMOOTH:
                    putAllSigned(k);
                    break;
                case TWIST:
                    putSigned(lines.storedAt(k, 0));
                    putText(lines.storedAt(k, 1) < 0 ? " -" : " +");
                    putLevel(lines.storedAt(k, 2));
                    break;
                case PUSH:
                    putSigned(lines.storedAt(k, 0));
                    putLevel(lines.storedAt(k, 1));
                    putSigned(lines.storedAt(k, 2));
                    break;
                case BRACKET: case JONES: case ALEXANDER:
                    putPolynomial(k, variableOf(kind));
                    break;
                default:
                    break;
            }
            paper.add('\n');
        }

        private void putCode(int k) {
            int last = lines.sizeOf(k) - 1;
            for (int i = 0; i < last; i += 5) {
                putText(lines.storedAt(k, i) < 0 ? " -[" : " +[");
                putDigits(lines.storedAt(k, i + 1));
                for (int j = 2; j <= 4; j++) {
                    putText(", ");
                    putDigits(lines.storedAt(k, i + j));
                }
                putText("]");
            }
            long circles = lines.storedAt(k, last);
            if (circles != 0) {
                putText(" o ");
                putDigits(circles);
            }
        }

        private void putAllSigned(int k) {
            for (int i = 0; i < lines.sizeOf(k); i++) {
                putSigned(lines.storedAt(k, i));
            }
        }

        private void putPolynomial(int k, String variable) {
            for (int i = 0; i < lines.sizeOf(k); i += 2) {
                boolean minus = lines.storedAt(k, i) < 0;
                if (i == 0) {
                    putText(minus ? " = -" : " = ");
                } else {
                    putText(minus ? " - " : " + ");
                }
                putTerm(lines.storedAt(k, i), valueOf(lines.storedAt(k, i + 1)), variable);
            }
        }

        private void putTerm(long coefficient, long exponent, String variable) {
            long size = Math.abs(valueOf(coefficient));
            if (size != 1 || exponent == 0) {
                putDigits(size);
            }
            if (exponent == 0) {
                return;
            }
            putText(variable);
            if (exponent != 1) {
                putText(exponent < 0 ? "^-" : "^");
                putDigits(Math.abs(exponent));
            }
        }

        private void putSigned(long stored) {
            putText(stored < 0 ? " -" : " ");
            putDigits(Math.abs(valueOf(stored)));
        }

        private void putLevel(long over) {
            putText(over == 1 ? " over" : " under");
        }

        private void putText(String text) {
            for (int i = 0; i < text.length(); i++) {
                paper.add(text.charAt(i));
            }
        }

        private void putDigits(long number) {
            boolean begun = false;
            for (long unit = HIGHEST_UNIT; unit > 0; unit /= 10) {
                long digit = number / unit % 10;
                begun = begun || digit != 0 || unit == 1;
                if (begun) {
                    paper.add((int) ('0' + digit));
                }
            }
        }
    }
}
