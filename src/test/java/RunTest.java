/** Promise 5: what a run does, and its outcome. */
public final class RunTest {
    private static final int LOWEST = Integer.MIN_VALUE, HIGHEST = Integer.MAX_VALUE;

    public static void main(String[] args) {
        withoutAProgram();
        sums();
        serverAndStamp();
        wrapping();
        signs();
        signsAtTheEdges();
        outcomes();
        firstRuleWins();
        testsWithAnd();
        effectsAreFoundFirst();
        aHeavyProgram();
        fullAtTwoHundred();
        Checks.finish();
    }

    private static void withoutAProgram() {
        RuleRunner x = new RuleRunner();
        Checks.due("run without a program", x.run(1, 2), RuleRunner.NONE);
        Checks.due("count(0)", x.count(0), 0);
        Checks.type(x, "c1 := 1");
        Checks.due("run while the text is on the tape", x.run(1, 2), RuleRunner.NONE);
        Checks.due("program", x.program(), RuleRunner.NONE);
        Checks.due("run", x.run(1, 2), 1);
    }

    private static long sum(String text, int server, int stamp) {
        RuleRunner x = new RuleRunner();
        x.set(2, 20);
        x.set(31, -31);
        Checks.accepted(x, "c1 := " + text);
        Checks.due("run of " + text, x.run(server, stamp), 1);
        return x.cell(1);
    }

    private static void sums() {
        Checks.due("5", sum("5", 0, 0), 5);
        Checks.due("007", sum("007", 0, 0), 7);
        Checks.due("c2", sum("c2", 0, 0), 20);
        Checks.due("c31", sum("c 31", 0, 0), -31);
        Checks.due("c0", sum("c0", 0, 0), 0);
        Checks.due("from the left", sum("10 - 3 - 2 + 1", 0, 0), 6);
        Checks.due("* before +", sum("2 + 3 * 4", 0, 0), 14);
        Checks.due("* before -", sum("2 * 3 - 4 * 5", 0, 0), -14);
        Checks.due("brackets", sum("(2 + 3) * (4 - 9)", 0, 0), -25);
        Checks.due("brackets right", sum("10 - (3 - 2)", 0, 0), 9);
        Checks.due("deep", sum("1-(2-(3-(4-(5-(6-(7)*2)))))", 0, 0), 1 - (2 - (3 - (4 - (5 - (6 - 14))))));
        Checks.due("many *", sum("2*3*4*5", 0, 0), 120);
    }

    private static void serverAndStamp() {
        Checks.due("server", sum("server", 7, 9), 7);
        Checks.due("stamp", sum("stamp", 7, 9), 9);
        Checks.due("server - stamp", sum("server-stamp", -7, 9), -16);
        Checks.due("lowest", sum("server", LOWEST, HIGHEST), LOWEST);
        Checks.due("highest", sum("stamp", LOWEST, HIGHEST), HIGHEST);
    }

    private static void wrapping() {
        Checks.due("2^31", sum("2147483647 + 1", 0, 0), LOWEST);
        Checks.due("below", sum("server - 1", LOWEST, 0), HIGHEST);
        Checks.due("product", sum("65536 * 65536", 0, 0), 0);
        Checks.due("product", sum("server * stamp", HIGHEST, HIGHEST), 1);
        Checks.due("product", sum("server * stamp", LOWEST, -1), LOWEST);
        Checks.due("there and back", sum("2147483647 + 2147483647 - 2147483647", 0, 0), HIGHEST);
    }

    private static void sign(String sign, int left, int right, int outcome) {
        RuleRunner x = Checks.with("if server " + sign + " stamp then c1 := 1");
        Checks.due(left + sign + right, x.run(left, right), outcome);
        Checks.due("cell(1) of " + left + sign + right, x.cell(1), outcome);
        Checks.due("count(0) of " + left + sign + right, x.count(0), 1);
    }

    private static void signs() {
        sign("=", 1, 1, 1);
        sign("=", 1, 2, 0);
        sign("=", 2, 1, 0);
        sign("#", 1, 1, 0);
        sign("#", 1, 2, 1);
        sign("#", 2, 1, 1);
        sign("<", 1, 1, 0);
        sign("<", 1, 2, 1);
        sign("<", 2, 1, 0);
        sign(">", 1, 1, 0);
        sign(">", 1, 2, 0);
        sign(">", 2, 1, 1);
    }

    private static void signsAtTheEdges() {
        sign("<", LOWEST, HIGHEST, 1);
        sign(">", LOWEST, HIGHEST, 0);
        sign("<", HIGHEST, LOWEST, 0);
        sign(">", HIGHEST, LOWEST, 1);
        sign("<", -1, 0, 1);
        sign("#", LOWEST, HIGHEST, 1);
        RuleRunner x = Checks.with("if server + 1 < stamp - 1 then c1 := 1");
        Checks.due("both sides wrap", x.run(HIGHEST, LOWEST), 1);
    }

    private static void outcomes() {
        RuleRunner x = Checks.with("if server=1 then c1:=1 else if server=2 then c1:=2 else if server=3"
                + " then c1:=3 else if server=4 then c1:=4 else if server=5 then c1:=5 else if server=6"
                + " then c1:=6");
        for (int server = 1; server <= 6; server++) {
            Checks.due("run(" + server + ", 0)", x.run(server, 0), server);
            Checks.due("cell(1)", x.cell(1), server);
        }
        Checks.due("run(7, 0)", x.run(7, 0), 0);
        Checks.cells("when no rule is taken", x, 0, 6);
        Checks.due("count(0)", x.count(0), 7);
    }

    private static void firstRuleWins() {
        RuleRunner x = Checks.with("if c0 = 1 then c1 := 1 else if c0 < 9 then c2 := 2 else if c0 < 9 then c3 := 3");
        Checks.due("the second of three", x.run(0, 0), 2);
        Checks.cells("after the second", x, 0, 0, 2);
        x = Checks.with("if stamp = 1 then c1 := 1 else c2 := 2 else c3 := 3");
        Checks.due("the one without if", x.run(0, 0), 2);
        Checks.cells("after the one without if", x, 0, 0, 2);
        Checks.due("the first", x.run(0, 1), 1);
        Checks.cells("after the first", x, 0, 1, 2);
    }

    private static void testsWithAnd() {
        RuleRunner x = Checks.with("if server > 0 and stamp > 0 and server # stamp then c1 := c1 + 1");
        Checks.due("none holds", x.run(0, 0), 0);
        Checks.due("only the last holds", x.run(0, -1), 0);
        Checks.due("the first does not", x.run(0, 1), 0);
        Checks.due("the second does not", x.run(1, 0), 0);
        Checks.due("the third does not", x.run(1, 1), 0);
        Checks.due("all hold", x.run(1, 2), 1);
        Checks.due("cell(1)", x.cell(1), 1);
    }

    private static void effectsAreFoundFirst() {
        RuleRunner x = new RuleRunner();
        x.set(0, 10);
        x.set(1, 20);
        Checks.accepted(x, "c0 := c1, c1 := c0, c2 := c0 + c1, c3 := 1, c3 := c3 + 5, c0 := c0 + 1");
        Checks.due("run", x.run(0, 0), 1);
        Checks.cells("after the swap", x, 11, 10, 30, 5);
        Checks.due("run", x.run(0, 0), 1);
        Checks.cells("after the second swap", x, 12, 11, 21, 10);
    }

    private static void aHeavyProgram() {
        RuleRunner x = Checks.with("if 1=2" + " and 1=1".repeat(37) + " then c1:=1 else c2:=c3+(server)");
        Checks.due("the second rule", x.run(5, 0), 2);
        Checks.cells("after 80 parts", x, 0, 0, 5);
        x = Checks.with("c0:=1+(2*(3-(4+(5*(6-(7+8)*9" + "+1".repeat(71) + ")))))");
        Checks.due("run of 80 parts, six brackets deep", x.run(0, 0), 1);
        Checks.due("cell(0)", x.cell(0), 579);
        x = Checks.with("c31:=1" + "+server".repeat(40) + ",c30:=1" + "-1".repeat(38));
        Checks.due("run of 80 parts", x.run(3, 0), 1);
        Checks.due("cell(31)", x.cell(31), 121);
        Checks.due("cell(30)", x.cell(30), -37);
    }

    private static void fullAtTwoHundred() {
        RuleRunner x = Checks.with("c1 := c1 + 1");
        for (int i = 1; i <= 200; i++) {
            Checks.due("run " + i, x.run(0, 0), 1);
        }
        Checks.due("run 201", x.run(0, 0), RuleRunner.FULL);
        Checks.cells("after FULL", x, 0, 200);
        Checks.due("count(0) after FULL", x.count(0), 200);
        Checks.due("undo", x.undo(), 199);
        Checks.due("run", x.run(0, 0), 1);
        Checks.due("run", x.run(0, 0), RuleRunner.FULL);
        Checks.accepted(x, "c2 := 1");
        Checks.due("run of another program", x.run(0, 0), RuleRunner.FULL);
        Checks.cells("after another program", x, 0, 200);
    }
}
