import java.util.ArrayDeque;
import java.util.ArrayList;
import java.util.Deque;
import java.util.List;
import java.util.Random;
import java.util.Set;
import java.util.regex.Matcher;
import java.util.regex.Pattern;

/**
 * All promises, by random calls, against a model made another way: faults come from a table of what
 * may follow what, sums from splitting the text at its last sign, undo from copies of all cells.
 */
public final class ModelTest {
    // Nothing is promised beyond 512 calls: a program takes up to 23, the last look at the cells 32.
    private static final int OBJECTS = 5000, CALLS = 450;

    public static void main(String[] args) {
        Checks.about("Promises 1 to 9");
        Random dice = new Random(20261115);
        int accepted = 0, refused = 0;
        for (int i = 0; i < OBJECTS; i++) {
            RuleRunner x = new RuleRunner();
            Model model = new Model();
            while (model.calls < CALLS) {
                int answer = oneCall(x, model, dice);
                accepted += answer == 1 ? 1 : 0;
                refused += answer == 2 ? 1 : 0;
            }
            Checks.cells("at the end of '" + model.text + "'", x, model.cells);
        }
        System.out.println(accepted + " programs were accepted, " + refused + " refused");
        Checks.due("there are enough of both", accepted > 1000 && refused > 1000 ? 1 : 0, 1);
        Checks.finish();
    }

    /** Answers 1 if a program was accepted, 2 if one was refused, else 0. */
    private static int oneCall(RuleRunner x, Model model, Random dice) {
        model.calls++;
        int kind = dice.nextInt(20);
        if (kind < 4) {
            return aProgram(x, model, RandomTexts.any(dice));
        } else if (kind < 9) {
            int server = number(dice), stamp = number(dice);
            Checks.due("run(" + server + ", " + stamp + ") of '" + model.text + "'",
                    x.run(server, stamp), model.run(server, stamp));
            sameCells(x, model, dice);
        } else if (kind < 13) {
            Checks.due("undo() after '" + model.text + "'", x.undo(), model.undo());
            sameCells(x, model, dice);
        } else if (kind < 16) {
            int c = dice.nextInt(36) - 2, v = number(dice);
            Checks.due("set(" + c + ", " + v + ")", x.set(c, v), model.set(c, v));
            sameCells(x, model, dice);
        } else if (kind < 18) {
            int what = dice.nextInt(5) - 1;
            Checks.due("count(" + what + ")", x.count(what), model.count(what));
        } else if (kind < 19) {
            int n = dice.nextInt(50) - 5;
            Checks.due("end(" + n + ")", x.end(n), model.end(n));
        } else {
            int[] f = {number(dice), number(dice), number(dice), number(dice), number(dice)};
            Checks.due("feed", x.feed(f[0], f[1], f[2], f[3], f[4]), model.feed(f));
        }
        return 0;
    }

    private static int aProgram(RuleRunner x, Model model, String text) {
        Checks.due("end(0)", x.end(0), model.end(0));
        Checks.type(x, text);
        model.tape = text;
        model.calls += 2 + (text.length() + 19) / 20;
        int due = model.program();
        Checks.due("program of '" + text + "'", x.program(), due);
        return due == RuleRunner.NONE ? 1 : 2;
    }

    private static void sameCells(RuleRunner x, Model model, Random dice) {
        // The texts use the first four cells most.
        int[] some = {dice.nextInt(4), dice.nextInt(4), dice.nextInt(32)};
        for (int c : some) {
            model.calls++;
            Checks.due("cell(" + c + ") with '" + model.text + "'", x.cell(c), model.cells[c]);
        }
    }

    private static int number(Random dice) {
        switch (dice.nextInt(4)) {
            case 0:
                return dice.nextInt();
            case 1:
                return Integer.MAX_VALUE + dice.nextInt(3);
            default:
                return dice.nextInt(7) - 3;
        }
    }

    private static final class Model {
        private int calls = 0;
        private int[] cells = new int[32];
        private final Deque<int[]> before = new ArrayDeque<>();
        private String tape = "";
        private String text = null;

        int feed(int[] words) {
            if (tape.length() + 20 > 400) {
                return -3;
            }
            StringBuilder more = new StringBuilder(tape);
            for (int word : words) {
                more.append((char) (word >>> 24)).append((char) (word >>> 16 & 255));
                more.append((char) (word >>> 8 & 255)).append((char) (word & 255));
            }
            tape = more.toString();
            return tape.length();
        }

        int end(int n) {
            if (n < 0 || n > tape.length()) {
                return -1;
            }
            tape = tape.substring(0, n);
            return n;
        }

        int program() {
            String read = tape;
            tape = "";
            int fault = Faults.of(read);
            if (fault == -2) {
                text = read;
            }
            return fault;
        }

        int run(int server, int stamp) {
            if (text == null) {
                return -2;
            }
            if (before.size() == 200) {
                return -3;
            }
            before.push(cells);
            cells = cells.clone();
            return new Values(before.peek(), server, stamp).perform(text, cells);
        }

        int undo() {
            if (before.isEmpty()) {
                return -2;
            }
            cells = before.pop();
            return before.size();
        }

        int set(int c, int v) {
            if (c < 0 || c > 31) {
                return -1;
            }
            if (!before.isEmpty()) {
                return -3;
            }
            cells[c] = v;
            return 0;
        }

        int count(int what) {
            return what == 0 ? before.size() : what == 1 ? tape.length() : -1;
        }
    }

    /** Goes from token to token, knowing only what may come next. */
    private static final class Faults {
        private static final Pattern TOKEN = Pattern.compile("[a-z]+|[0-9]+|:=|[=#<>+*,()-]");
        private static final Set<String> WORDS = Set.of("if", "then", "else", "and", "server", "stamp", "c");

        // What is looked for: a RULE, an EFFECT, the number or := of one, a PART, what is behind it.
        private enum Want { RULE, EFFECT, CELL, BECOMES, PART, PART_CELL, BEHIND }

        // Where the SUM stands: left or right of a comparison, or in an EFFECT.
        private enum In { LEFT, RIGHT, EFFECT }

        private Want want = Want.RULE;
        private In in = In.EFFECT;
        private int rules, effects, parts, depth;

        static int of(String text) {
            Faults f = new Faults();
            Matcher m = TOKEN.matcher(text);
            int place = 0;
            while (place < text.length()) {
                if (text.charAt(place) == ' ') {
                    place++;
                    continue;
                }
                m.region(place, text.length());
                if (!m.lookingAt() || !isToken(m.group()) || !f.goesOn(m.group())) {
                    return place;
                }
                place = m.end();
            }
            boolean whole = f.want == Want.BEHIND && f.in == In.EFFECT && f.depth == 0;
            return whole ? -2 : text.length();
        }

        private static boolean isToken(String t) {
            if (t.charAt(0) >= 'a') {
                return WORDS.contains(t);
            }
            return !isNumber(t) || new java.math.BigInteger(t).bitLength() <= 31;
        }

        private static boolean isNumber(String t) {
            return t.charAt(0) >= '0' && t.charAt(0) <= '9';
        }

        private boolean next(Want then) {
            want = then;
            return true;
        }

        private boolean goesOn(String t) {
            switch (want) {
                case RULE:
                    effects = 0;
                    if (rules == 6 || !t.equals("if")) {
                        return rules++ < 6 && beginsEffect(t);
                    }
                    rules++;
                    in = In.LEFT;
                    return next(Want.PART);
                case EFFECT:
                    return beginsEffect(t);
                case CELL:
                    return isCell(t) && next(Want.BECOMES);
                case BECOMES:
                    in = In.EFFECT;
                    return t.equals(":=") && next(Want.PART);
                case PART:
                    return beginsPart(t);
                case PART_CELL:
                    return isCell(t) && next(Want.BEHIND);
                default:
                    return behindPart(t);
            }
        }

        private static boolean isCell(String t) {
            return isNumber(t) && Integer.parseInt(t) < 32;
        }

        private boolean beginsEffect(String t) {
            effects++;
            return effects <= 8 && t.equals("c") && next(Want.CELL);
        }

        private boolean beginsPart(String t) {
            if (t.equals("(")) {
                depth++;
                return depth <= 6;
            }
            parts++;
            if (parts > 80) {
                return false;
            }
            if (t.equals("c")) {
                return next(Want.PART_CELL);
            }
            return (isNumber(t) || t.equals("server") || t.equals("stamp")) && next(Want.BEHIND);
        }

        private boolean behindPart(String t) {
            if ("+-*".contains(t)) {
                return next(Want.PART);
            }
            if (depth > 0) {
                depth--;
                return t.equals(")");
            }
            if (in == In.LEFT) {
                in = In.RIGHT;
                return "=#<>".contains(t) && next(Want.PART);
            }
            if (in == In.RIGHT) {
                in = In.LEFT;
                return t.equals("and") ? next(Want.PART) : t.equals("then") && next(Want.EFFECT);
            }
            return t.equals(",") ? next(Want.EFFECT) : t.equals("else") && next(Want.RULE);
        }
    }

    /** Finds values by splitting a text without faults. */
    private static final class Values {
        private final int[] cells;
        private final int server, stamp;

        Values(int[] cells, int server, int stamp) {
            this.cells = cells;
            this.server = server;
            this.stamp = stamp;
        }

        int perform(String text, int[] target) {
            String[] rules = text.replace(" ", "").split("else");
            for (int i = 0; i < rules.length; i++) {
                int then = rules[i].indexOf("then");
                if (then < 0 || allHold(rules[i].substring(2, then).split("and"))) {
                    for (String effect : rules[i].substring(then < 0 ? 0 : then + 4).split(",")) {
                        int sign = effect.indexOf(":=");
                        int c = Integer.parseInt(effect.substring(1, sign));
                        target[c] = value(effect.substring(sign + 2));
                    }
                    return i + 1;
                }
            }
            return 0;
        }

        private boolean allHold(String[] compares) {
            for (String compare : compares) {
                String[] sides = compare.split("[=#<>]");
                char sign = compare.charAt(sides[0].length());
                int order = Integer.compare(value(sides[0]), value(sides[1]));
                boolean holds = sign == '=' ? order == 0 : sign == '#' ? order != 0
                        : sign == '<' ? order < 0 : order > 0;
                if (!holds) {
                    return false;
                }
            }
            return true;
        }

        private int value(String sum) {
            int at = lastOutside(sum, "+-");
            if (at < 0) {
                at = lastOutside(sum, "*");
            }
            if (at >= 0) {
                long left = value(sum.substring(0, at)), right = value(sum.substring(at + 1));
                char sign = sum.charAt(at);
                return (int) (sign == '+' ? left + right : sign == '-' ? left - right : left * right);
            }
            switch (sum.charAt(0)) {
                case '(':
                    return value(sum.substring(1, sum.length() - 1));
                case 'c':
                    return cells[Integer.parseInt(sum.substring(1))];
                case 's':
                    return sum.equals("server") ? server : stamp;
                default:
                    return Integer.parseInt(sum);
            }
        }

        private static int lastOutside(String sum, String signs) {
            int depth = 0;
            for (int i = sum.length() - 1; i >= 0; i--) {
                char sign = sum.charAt(i);
                depth += sign == ')' ? 1 : sign == '(' ? -1 : 0;
                if (depth == 0 && signs.indexOf(sign) >= 0) {
                    return i;
                }
            }
            return -1;
        }
    }

    /** Texts that are programs, or nearly, or not at all. */
    private static final class RandomTexts {
        private static final String[] TOKENS = {"if", "then", "else", "and", "server", "stamp", "c", "0", "7",
            "31", "32", "2147483647", "2147483648", "=", "#", "<", ">", "+", "-", "*", ":=", ",", "(", ")",
            ":", "x", "cc", "\t", "\u00e9", "$", "c1", "c 2", "if 1 = 1 then", "else c1 := 1", ", c1 := 1"};

        static String any(Random dice) {
            List<String> tokens = new ArrayList<>();
            int many = dice.nextInt(10) == 0 ? 9 : 4;
            rules(dice, tokens, many);
            for (int changes = dice.nextInt(4) - 1; changes > 0; changes--) {
                spoil(dice, tokens);
            }
            String text = join(dice, tokens);
            int most = dice.nextInt(8) == 0 ? dice.nextInt(400) : 400;
            return text.length() > most ? text.substring(0, most) : text;
        }

        private static void spoil(Random dice, List<String> tokens) {
            int at = dice.nextInt(tokens.size());
            switch (dice.nextInt(3)) {
                case 0:
                    tokens.set(at, TOKENS[dice.nextInt(TOKENS.length)]);
                    break;
                case 1:
                    tokens.add(at, TOKENS[dice.nextInt(TOKENS.length)]);
                    break;
                default:
                    if (tokens.size() > 1) {
                        tokens.remove(at);
                    }
                    break;
            }
        }

        private static String join(Random dice, List<String> tokens) {
            StringBuilder text = new StringBuilder();
            boolean tight = dice.nextBoolean();
            for (String token : tokens) {
                char last = text.length() == 0 ? ' ' : text.charAt(text.length() - 1);
                boolean melts = Character.isLetterOrDigit(last)
                        && Character.isDigit(last) == Character.isDigit(token.charAt(0));
                if (melts && dice.nextInt(50) > 0 || !tight && dice.nextBoolean()) {
                    text.append(dice.nextInt(6) == 0 ? "  " : " ");
                }
                text.append(token);
            }
            return text.toString();
        }

        private static void rules(Random dice, List<String> out, int many) {
            int rules = 1 + dice.nextInt(many - 1);
            for (int i = 0; i < rules; i++) {
                if (i > 0) {
                    out.add("else");
                }
                if (dice.nextInt(4) > 0) {
                    out.add("if");
                    test(dice, out);
                }
                int effects = dice.nextInt(12) == 0 ? 10 : 1 + dice.nextInt(3);
                for (int j = 0; j < effects; j++) {
                    if (j > 0) {
                        out.add(",");
                    }
                    cell(dice, out);
                    out.add(":=");
                    sum(dice, out, 0);
                }
            }
        }

        private static void test(Random dice, List<String> out) {
            int compares = 1 + dice.nextInt(3);
            for (int i = 0; i < compares; i++) {
                if (i > 0) {
                    out.add("and");
                }
                sum(dice, out, 0);
                out.add(String.valueOf("=#<>".charAt(dice.nextInt(4))));
                sum(dice, out, 0);
            }
            out.add("then");
        }

        private static void cell(Random dice, List<String> out) {
            out.add("c");
            out.add(String.valueOf(dice.nextInt(8) == 0 ? dice.nextInt(33) : dice.nextInt(4)));
        }

        private static void sum(Random dice, List<String> out, int depth) {
            int parts = dice.nextInt(60) == 0 ? 60 : dice.nextInt(3) == 0 ? 1 + dice.nextInt(4) : 1;
            for (int i = 0; i < parts; i++) {
                if (i > 0) {
                    out.add(String.valueOf("+-*".charAt(dice.nextInt(3))));
                }
                part(dice, out, depth);
            }
        }

        private static void part(Random dice, List<String> out, int depth) {
            switch (dice.nextInt(6)) {
                case 0:
                    out.add("server");
                    break;
                case 1:
                    out.add("stamp");
                    break;
                case 2:
                    out.add(String.valueOf(dice.nextInt(dice.nextBoolean() ? 5 : Integer.MAX_VALUE)));
                    break;
                case 3:
                    if (depth < 8) {
                        int deep = dice.nextInt(10) == 0 ? 1 + dice.nextInt(7) : 1;
                        for (int i = 0; i < deep; i++) {
                            out.add("(");
                        }
                        sum(dice, out, depth + deep);
                        for (int i = 0; i < deep; i++) {
                            out.add(")");
                        }
                        break;
                    }
                    out.add("1");
                    break;
                default:
                    cell(dice, out);
                    break;
            }
        }
    }
}
