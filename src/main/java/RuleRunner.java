/**
 * Programs of rules with tests and effects on cells: read from a text, or refused at a place;
 * done, and undone.
 */
public final class RuleRunner {
    public static final int REFUSED = -1, NONE = -2, FULL = -3;

    private static final int CELLS = 32;
    private static final long NO_CELL = 1L << 40;
    private static final int MOST_BYTES = 400;
    private static final int MOST_RUNS = 200;
    private static final int MOST_RULES = 6;
    private static final int MOST_EFFECTS = 8;
    private static final int MOST_PARTS = 80;
    private static final int MOST_BRACKETS = 6;
    private static final int HIGHEST_NUMBER = 2147483647;

    // A PART puts one value on the stack and every other step takes at least one away, so there
    // are never more of the others than of the PARTS.
    private static final int MOST_STEPS = 2 * MOST_PARTS;
    private static final int MOST_CHANGES = MOST_RUNS * MOST_EFFECTS;

    // The kinds of tokens; those of values and operations are also the kinds of a program's steps.
    private static final int TEXT_END = 0, NO_TOKEN = 1;
    private static final int IF = 2, THEN = 3, ELSE = 4, AND = 5;
    private static final int SERVER = 6, STAMP = 7, CELL = 8, NUMBER = 9;
    private static final int SAME = 10, OTHER = 11, LESS = 12, MORE = 13;
    private static final int PLUS = 14, MINUS = 15, TIMES = 16, BECOMES = 17;
    private static final int COMMA = 18, OPEN = 19, CLOSE = 20;

    private final Tape tape;
    private final Reader reader;
    private final Machine machine;
    private Code current;

    public RuleRunner() {
        tape = new Tape();
        reader = new Reader();
        machine = new Machine();
        current = new Code();
    }

    public int feed(int a, int b, int c, int d, int e) {
        if (tape.length + 20 > MOST_BYTES) {
            return FULL;
        }
        tape.append(a);
        tape.append(b);
        tape.append(c);
        tape.append(d);
        tape.append(e);
        return tape.length;
    }

    public int end(int n) {
        if (n < 0 || n > tape.length) {
            return REFUSED;
        }
        tape.length = n;
        return n;
    }

    public int program() {
        int fault = reader.read(tape);
        tape.length = 0;
        if (fault == NONE) {
            current = reader.exchange(current);
        }
        return fault;
    }

    public int run(int server, int stamp) {
        return current.rules == 0 ? NONE : machine.perform(current, server, stamp);
    }

    public int undo() {
        return machine.takeBack();
    }

    public long cell(int c) {
        return isCell(c) ? machine.cells[c] : NO_CELL;
    }

    public int set(int c, int v) {
        if (!isCell(c)) {
            return REFUSED;
        }
        if (machine.runs > 0) {
            return FULL;
        }
        machine.cells[c] = v;
        return 0;
    }

    public int count(int what) {
        switch (what) {
            case 0:
                return machine.runs;
            case 1:
                return tape.length;
            default:
                return REFUSED;
        }
    }

    private static boolean isCell(int c) {
        return c >= 0 && c < CELLS;
    }

    /** The bytes that were fed and not yet read. */
    private static final class Tape {
        private final byte[] bytes = new byte[MOST_BYTES];
        private int length;

        private void append(int four) {
            for (int shift = 24; shift >= 0; shift -= 8) {
                if (length < MOST_BYTES) {
                    bytes[length] = (byte) (four >> shift);
                    length++;
                }
            }
        }

        private boolean spells(String word, int from, int after) {
            if (word.length() != after - from) {
                return false;
            }
            for (int i = 0; i < word.length(); i++) {
                if (bytes[from + i] != word.charAt(i)) {
                    return false;
                }
            }
            return true;
        }
    }

    /** A tape's tokens, with one more behind them that stands for the end of the text. */
    private static final class Tokens {
        private final int[] kinds = new int[MOST_BYTES + 1];
        private final int[] values = new int[MOST_BYTES + 1];
        private final int[] places = new int[MOST_BYTES + 1];
        private int size;

        private void split(Tape tape) {
            size = 0;
            int after = 0;
            for (int place = 0; place < tape.length; place++) {
                if (place >= after && tape.bytes[place] != ' ') {
                    after = splitOne(tape, place);
                }
            }
            add(TEXT_END, 0, tape.length);
        }

        /** Answers the place behind the token. */
        private int splitOne(Tape tape, int place) {
            int first = tape.bytes[place];
            if (isLetter(first)) {
                return splitWord(tape, place);
            }
            if (isDigit(first)) {
                return splitNumber(tape, place);
            }
            if (first == ':' && place + 1 < tape.length && tape.bytes[place + 1] == '=') {
                add(BECOMES, 0, place);
                return place + 2;
            }
            add(signKind(first), 0, place);
            return place + 1;
        }

        private int splitWord(Tape tape, int place) {
            int after = place;
            while (after < tape.length && isLetter(tape.bytes[after])) {
                after++;
            }
            add(wordKind(tape, place, after), 0, place);
            return after;
        }

        private int splitNumber(Tape tape, int place) {
            long value = 0;
            int after = place;
            while (after < tape.length && isDigit(tape.bytes[after])) {
                // Held just above the highest number, as many digits would wrap even a long.
                value = Math.min(value * 10 + (tape.bytes[after] - '0'), HIGHEST_NUMBER + 1L);
                after++;
            }
            if (value > HIGHEST_NUMBER) {
                add(NO_TOKEN, 0, place);
            } else {
                add(NUMBER, (int) value, place);
            }
            return after;
        }

        private void add(int kind, int value, int place) {
            if (size <= MOST_BYTES) {
                kinds[size] = kind;
                values[size] = value;
                places[size] = place;
                size++;
            }
        }

        private static boolean isLetter(int sign) {
            return sign >= 'a' && sign <= 'z';
        }

        private static boolean isDigit(int sign) {
            return sign >= '0' && sign <= '9';
        }

        private static int wordKind(Tape tape, int from, int after) {
            if (tape.spells("c", from, after)) {
                return CELL;
            }
            if (tape.spells("if", from, after)) {
                return IF;
            }
            if (tape.spells("then", from, after)) {
                return THEN;
            }
            if (tape.spells("else", from, after)) {
                return ELSE;
            }
            if (tape.spells("and", from, after)) {
                return AND;
            }
            if (tape.spells("server", from, after)) {
                return SERVER;
            }
            if (tape.spells("stamp", from, after)) {
                return STAMP;
            }
            return NO_TOKEN;
        }

        private static int signKind(int sign) {
            switch (sign) {
                case '=':
                    return SAME;
                case '#':
                    return OTHER;
                case '<':
                    return LESS;
                case '>':
                    return MORE;
                case '+':
                    return PLUS;
                case '-':
                    return MINUS;
                case '*':
                    return TIMES;
                case ',':
                    return COMMA;
                case '(':
                    return OPEN;
                case ')':
                    return CLOSE;
                default:
                    return NO_TOKEN;
            }
        }
    }

    /** A program as steps for a stack: values, operations on the top two, comparisons, effects. */
    private static final class Code {
        private final int[] kinds = new int[MOST_STEPS];
        private final int[] values = new int[MOST_STEPS];
        private final int[] ruleEnds = new int[MOST_RULES];
        private int steps;
        private int rules;

        private void clear() {
            steps = 0;
            rules = 0;
        }

        private void add(int kind, int value) {
            if (steps < MOST_STEPS) {
                kinds[steps] = kind;
                values[steps] = value;
                steps++;
            }
        }

        private void closeRule() {
            if (rules < MOST_RULES) {
                ruleEnds[rules] = steps;
                rules++;
            }
        }
    }

    /**
     * Reads by the grammar. Each read method answers whether it found what it reads, and goes
     * past no token that can not stand: so where one answers false, the FAULT is the place of the
     * token looked at. What is too much is refused before its first token is passed.
     */
    private static final class Reader {
        private final Tokens tokens = new Tokens();
        private Code code = new Code();
        private int at;
        private int parts;

        /** Answers NONE, or the FAULT. */
        private int read(Tape tape) {
            tokens.split(tape);
            code.clear();
            at = 0;
            parts = 0;
            for (int rule = 0; rule < MOST_RULES; rule++) {
                if (!readRule()) {
                    break;
                }
                code.closeRule();
                if (looksAt(TEXT_END)) {
                    return NONE;
                }
                if (!pass(ELSE)) {
                    break;
                }
            }
            return tokens.places[at];
        }

        /** Gives away the code that was read, for one that is written over by the next reading. */
        private Code exchange(Code old) {
            Code fresh = code;
            code = old;
            return fresh;
        }

        private boolean readRule() {
            if (pass(IF) && !readTest()) {
                return false;
            }
            for (int effect = 0; effect < MOST_EFFECTS; effect++) {
                if (!readEffect()) {
                    return false;
                }
                if (!pass(COMMA)) {
                    return true;
                }
            }
            return false;
        }

        private boolean readTest() {
            for (int compare = 0; compare < MOST_PARTS; compare++) {
                if (!readSum(0)) {
                    return false;
                }
                int sign = tokens.kinds[at];
                if (!pass(SAME) && !pass(OTHER) && !pass(LESS) && !pass(MORE)) {
                    return false;
                }
                if (!readSum(0)) {
                    return false;
                }
                code.add(sign, 0);
                if (!pass(AND)) {
                    return pass(THEN);
                }
            }
            return false;
        }

        private boolean readEffect() {
            if (!pass(CELL) || !looksAtCellNumber()) {
                return false;
            }
            int cell = tokens.values[at];
            at++;
            if (!pass(BECOMES) || !readSum(0)) {
                return false;
            }
            code.add(BECOMES, cell);
            return true;
        }

        private boolean readSum(int depth) {
            if (!readTerm(depth)) {
                return false;
            }
            for (int term = 1; term <= MOST_PARTS; term++) {
                int sign = tokens.kinds[at];
                if (!pass(PLUS) && !pass(MINUS)) {
                    return true;
                }
                if (!readTerm(depth)) {
                    return false;
                }
                code.add(sign, 0);
            }
            return false;
        }

        private boolean readTerm(int depth) {
            if (!readPart(depth)) {
                return false;
            }
            for (int part = 1; part <= MOST_PARTS; part++) {
                if (!pass(TIMES)) {
                    return true;
                }
                if (!readPart(depth)) {
                    return false;
                }
                code.add(TIMES, 0);
            }
            return false;
        }

        private boolean readPart(int depth) {
            if (looksAt(OPEN)) {
                return depth < MOST_BRACKETS && pass(OPEN) && readSum(depth + 1) && pass(CLOSE);
            }
            if (parts >= MOST_PARTS) {
                return false;
            }
            parts++;
            int kind = tokens.kinds[at];
            if (pass(CELL)) {
                if (!looksAtCellNumber()) {
                    return false;
                }
            } else if (kind != NUMBER && kind != SERVER && kind != STAMP) {
                return false;
            }
            code.add(kind, tokens.values[at]);
            at++;
            return true;
        }

        private boolean looksAt(int kind) {
            return tokens.kinds[at] == kind;
        }

        private boolean looksAtCellNumber() {
            return tokens.kinds[at] == NUMBER && tokens.values[at] < CELLS;
        }

        /** Never asked for TEXT_END, so the token looked at is always one of the row. */
        private boolean pass(int kind) {
            if (tokens.kinds[at] != kind) {
                return false;
            }
            at++;
            return true;
        }
    }

    /** The cells, what does a program on them, and what is needed to undo it. */
    private static final class Machine {
        private final int[] cells = new int[CELLS];

        private final int[] stack = new int[MOST_PARTS];
        private int height;

        private final int[] effectCells = new int[MOST_EFFECTS];
        private final int[] effectValues = new int[MOST_EFFECTS];
        private int effects;

        // A run keeps only the cells that it changes: a whole row of cells for each of the runs
        // would be four times as much.
        private final int[] changedCells = new int[MOST_CHANGES];
        private final int[] changedFrom = new int[MOST_CHANGES];
        private int changes;
        private final int[] changesBefore = new int[MOST_RUNS];
        private int runs;

        /** Answers the OUTCOME, or FULL. */
        private int perform(Code code, int server, int stamp) {
            if (runs >= MOST_RUNS) {
                return FULL;
            }
            changesBefore[runs] = changes;
            runs++;
            int from = 0;
            for (int rule = 0; rule < code.rules; rule++) {
                if (isTaken(code, from, code.ruleEnds[rule], server, stamp)) {
                    applyEffects();
                    return rule + 1;
                }
                from = code.ruleEnds[rule];
            }
            return 0;
        }

        /** Whether the RULE's TEST holds; if so the SUMS of its EFFECTS are found too. */
        private boolean isTaken(Code code, int from, int after, int server, int stamp) {
            height = 0;
            effects = 0;
            for (int step = from; step < after; step++) {
                switch (code.kinds[step]) {
                    case NUMBER:
                        push(code.values[step]);
                        break;
                    case CELL:
                        push(cells[code.values[step]]);
                        break;
                    case SERVER:
                        push(server);
                        break;
                    case STAMP:
                        push(stamp);
                        break;
                    case BECOMES:
                        addEffect(code.values[step], pop());
                        break;
                    case PLUS:
                    case MINUS:
                    case TIMES:
                        calculate(code.kinds[step]);
                        break;
                    default:
                        if (!holds(code.kinds[step])) {
                            return false;
                        }
                        break;
                }
            }
            return true;
        }

        private void calculate(int sign) {
            int right = pop();
            int left = pop();
            switch (sign) {
                case PLUS:
                    push(left + right);
                    break;
                case MINUS:
                    push(left - right);
                    break;
                default:
                    push(left * right);
                    break;
            }
        }

        private boolean holds(int sign) {
            int right = pop();
            int left = pop();
            switch (sign) {
                case SAME:
                    return left == right;
                case OTHER:
                    return left != right;
                case LESS:
                    return left < right;
                default:
                    return left > right;
            }
        }

        private void push(int value) {
            if (height < MOST_PARTS) {
                stack[height] = value;
                height++;
            }
        }

        private int pop() {
            if (height == 0) {
                return 0;
            }
            height--;
            return stack[height];
        }

        private void addEffect(int cell, int value) {
            if (effects < MOST_EFFECTS) {
                effectCells[effects] = cell;
                effectValues[effects] = value;
                effects++;
            }
        }

        private void applyEffects() {
            for (int i = 0; i < effects; i++) {
                change(effectCells[i], effectValues[i]);
            }
        }

        private void change(int cell, int value) {
            if (changes < MOST_CHANGES && isCell(cell)) {
                changedCells[changes] = cell;
                changedFrom[changes] = cells[cell];
                changes++;
                cells[cell] = value;
            }
        }

        /** Answers how many runs can still be undone, or NONE. */
        private int takeBack() {
            if (runs == 0) {
                return NONE;
            }
            runs--;
            int before = changesBefore[runs];
            // From the last to the first, as one run may have changed a cell more than once.
            for (int i = changes - 1; i >= before; i--) {
                cells[changedCells[i]] = changedFrom[i];
            }
            changes = before;
            return runs;
        }
    }
}
