/** The terms DONE and THE OUTCOME, and promise 5. */
public final class RunTest {
    private static final int LOWEST = Integer.MIN_VALUE, HIGHEST = Integer.MAX_VALUE;

    public static void main(String[] args) {
        sums();
        serverAndStamp();
        wrapping();
        wrappingInTests();
        signs();
        signsAtTheEdges();
        testsWithAnd();
        theFirstRuleWhoseTestHolds();
        theFirstRuleWithoutIf();
        allSumsBeforeTheCells();
        testsBeforeTheCells();
        theSameCellTwice();
        numberOfTheRule();
        noneTaken();
        aHeavyProgram();
        noneWithoutAProgram();
        fullWithTwoHundred();
        fullWithRunsOfNoRule();
        fullWhateverTheProgram();
        Checks.finish();
    }

    private static long sum(String text, int server, int stamp) {
        RuleRunner x = new RuleRunner();
        x.set(2, 20);
        x.set(31, -31);
        Checks.accepted(x, "c1 := " + text);
        Checks.due("run of " + text, x.run(server, stamp), 1);
        return x.cell(1);
    }

    private static void sums() {
        Checks.about("SUM: TERM { + TERM, - TERM }; TERM: PART { \"*\" PART }");
        Checks.due("5", sum("5", 0, 0), 5);
        Checks.due("007", sum("007", 0, 0), 7);
        Checks.due("c2", sum("c2", 0, 0), 20);
        Checks.due("c31", sum("c 31", 0, 0), -31);
        Checks.due("c0", sum("c0", 0, 0), 0);
        Checks.due("from the left", sum("10 - 3 - 2 + 1", 0, 0), 6);
        Checks.due("* before +", sum("2 + 3 * 4", 0, 0), 14);
        Checks.due("* before -", sum("2 * 3 - 4 * 5", 0, 0), -14);
        Checks.due("brackets", sum("(2 + 3) * (4 - 9)", 0, 0), -25);
        Checks.due("brackets right", sum("10 - (3 - 2)", 0, 0), 9);
        Checks.due("deep", sum("1-(2-(3-(4-(5-(6-(7)*2)))))", 0, 0), 1 - (2 - (3 - (4 - (5 - (6 - 14))))));
        Checks.due("many *", sum("2*3*4*5", 0, 0), 120);
    }

    private static void serverAndStamp() {
        Checks.about("server and stamp are what run is told");
        Checks.due("server", sum("server", 7, 9), 7);
        Checks.due("stamp", sum("stamp", 7, 9), 9);
        Checks.due("server - stamp", sum("server-stamp", -7, 9), -16);
        Checks.due("lowest", sum("server", LOWEST, HIGHEST), LOWEST);
        Checks.due("highest", sum("stamp", LOWEST, HIGHEST), HIGHEST);
        RuleRunner x = Checks.with("c1 := server, c2 := stamp");
        x.run(1, 2);
        x.run(3, 4);
        Checks.cells("after the second run", x, 0, 3, 4);
    }

    private static void wrapping() {
        Checks.about("ints that wrap");
        Checks.due("up to the highest", sum("2147483646 + 1", 0, 0), HIGHEST);
        Checks.due("above the highest", sum("2147483647 + 1", 0, 0), LOWEST);
        Checks.due("twice the highest", sum("server + stamp", HIGHEST, HIGHEST), -2);
        Checks.due("down to the lowest", sum("server - 1", LOWEST + 1, 0), LOWEST);
        Checks.due("below the lowest", sum("server - 1", LOWEST, 0), HIGHEST);
        Checks.due("twice the lowest", sum("server + stamp", LOWEST, LOWEST), 0);
        Checks.due("0 - lowest", sum("0 - server", LOWEST, 0), LOWEST);
        Checks.due("0 - highest", sum("0 - 2147483647", 0, 0), -HIGHEST);
        Checks.due("2^30 * 2 - 1", sum("1073741824 * 2 - 1", 0, 0), HIGHEST);
        Checks.due("2^15 * 2^16", sum("32768 * 65536", 0, 0), LOWEST);
        Checks.due("2^16 * 2^16", sum("65536 * 65536", 0, 0), 0);
        Checks.due("46341 * 46341", sum("46341 * 46341", 0, 0), -2147479015);
        Checks.due("46340 * 46340", sum("46340 * 46340", 0, 0), 2147395600);
        Checks.due("highest * highest", sum("server * stamp", HIGHEST, HIGHEST), 1);
        Checks.due("lowest * -1", sum("server * stamp", LOWEST, -1), LOWEST);
        Checks.due("there and back", sum("2147483647 + 2147483647 - 2147483647", 0, 0), HIGHEST);
    }

    private static void wrappingInTests() {
        Checks.about("ints that wrap: in a TEST, too");
        Checks.due("just below", Checks.with("if 2147483646 + 1 > 0 then c1 := 1").run(0, 0), 1);
        Checks.due("just above", Checks.with("if 2147483647 + 1 < 0 then c1 := 1").run(0, 0), 1);
        Checks.due("a product", Checks.with("if 65536 * 65536 = 0 then c1 := 1").run(0, 0), 1);
        Checks.due("both sides", Checks.with("if server + 1 < stamp - 1 then c1 := 1").run(HIGHEST, LOWEST), 1);
        Checks.due("neither side", Checks.with("if server - 1 < stamp + 1 then c1 := 1").run(HIGHEST, LOWEST), 0);
    }

    private static void sign(String sign, int left, int right, int outcome) {
        RuleRunner x = Checks.with("if server " + sign + " stamp then c1 := 1");
        Checks.due(left + sign + right, x.run(left, right), outcome);
        Checks.due("cell(1) of " + left + sign + right, x.cell(1), outcome);
        Checks.due("count(0) of " + left + sign + right, x.count(0), 1);
    }

    private static void signs() {
        Checks.about("SIGN one of = # < > (# not the same)");
        String[] signs = {"=", "#", "<", ">"};
        int[] ofLess = {0, 1, 1, 0}, ofSame = {1, 0, 0, 0}, ofMore = {0, 1, 0, 1};
        for (int i = 0; i < signs.length; i++) {
            sign(signs[i], 1, 2, ofLess[i]);
            sign(signs[i], 2, 2, ofSame[i]);
            sign(signs[i], 3, 2, ofMore[i]);
        }
    }

    private static void signsAtTheEdges() {
        Checks.about("SIGN one of = # < >: where a difference would wrap");
        sign("<", LOWEST, HIGHEST, 1);
        sign(">", LOWEST, HIGHEST, 0);
        sign("<", HIGHEST, LOWEST, 0);
        sign(">", HIGHEST, LOWEST, 1);
        sign("<", -1, 0, 1);
        sign(">", 0, LOWEST, 1);
        sign("#", LOWEST, HIGHEST, 1);
        sign("=", LOWEST, LOWEST, 1);
    }

    private static void testsWithAnd() {
        Checks.about("TEST: COMPARE { and COMPARE }");
        RuleRunner x = Checks.with("if server > 0 and stamp > 0 and server # stamp then c1 := c1 + 1");
        Checks.due("none holds", x.run(0, 0), 0);
        Checks.due("only the last holds", x.run(0, -1), 0);
        Checks.due("the first does not", x.run(0, 1), 0);
        Checks.due("the second does not", x.run(1, 0), 0);
        Checks.due("the third does not", x.run(1, 1), 0);
        Checks.due("all hold", x.run(1, 2), 1);
        Checks.due("cell(1)", x.cell(1), 1);
    }

    private static void theFirstRuleWhoseTestHolds() {
        Checks.about("the first RULE whose TEST holds, is taken");
        RuleRunner x = Checks.with("if c0 = 1 then c1 := 1 else if c0 < 9 then c2 := 2 else if c0 < 9 then c3 := 3");
        Checks.due("the second of three", x.run(0, 0), 2);
        Checks.cells("after the second", x, 0, 0, 2);
        x = Checks.with("if 1 = 1 then c1 := 1 else c2 := 2");
        Checks.due("the first, before one without if", x.run(0, 0), 1);
        Checks.cells("after the first", x, 0, 1);
    }

    private static void theFirstRuleWithoutIf() {
        Checks.about("the first RULE without if is taken");
        RuleRunner x = Checks.with("c1 := 1 else c2 := 2");
        Checks.due("the first of all", x.run(0, 0), 1);
        Checks.cells("after the first of all", x, 0, 1);
        x = Checks.with("if stamp = 1 then c1 := 1 else c2 := 2 else c3 := 3");
        Checks.due("the one without if", x.run(0, 0), 2);
        Checks.cells("after the one without if", x, 0, 0, 2);
        Checks.due("the first", x.run(0, 1), 1);
        Checks.cells("after the first", x, 0, 1, 2);
        x = Checks.with("c1 := 1 else if 1 = 1 then c2 := 2");
        Checks.due("before one whose TEST holds", x.run(0, 0), 1);
        Checks.cells("before one whose TEST holds", x, 0, 1);
    }

    private static void allSumsBeforeTheCells() {
        Checks.about("all SUMS of its EFFECTS are found, then its cells become them");
        RuleRunner x = new RuleRunner();
        x.set(0, 10);
        x.set(1, 20);
        Checks.accepted(x, "c0 := c1, c1 := c0, c2 := c0 + c1, c3 := c2");
        Checks.due("run", x.run(0, 0), 1);
        Checks.cells("after the swap", x, 20, 10, 30);
        Checks.due("run", x.run(0, 0), 1);
        Checks.cells("after the second swap", x, 10, 20, 30, 30);
        x = Checks.with("c0:=c0+1,c1:=c0,c2:=c1,c3:=c2,c4:=c3,c5:=c4,c6:=c5,c7:=c6");
        x.run(0, 0);
        Checks.cells("the first of eight", x, 1);
        x.run(0, 0);
        Checks.cells("the second of eight", x, 2, 1);
    }

    private static void testsBeforeTheCells() {
        Checks.about("the first RULE is taken: the others do nothing, whatever its cells became");
        RuleRunner x = Checks.with("if c0 = 0 then c0 := 1 else if c0 = 1 then c0 := 2 else c0 := 3");
        Checks.due("run", x.run(0, 0), 1);
        Checks.cells("after the first run", x, 1);
        Checks.due("run", x.run(0, 0), 2);
        Checks.cells("after the second run", x, 2);
        Checks.due("run", x.run(0, 0), 3);
        Checks.cells("after the third run", x, 3);
    }

    private static void theSameCellTwice() {
        Checks.about("its cells become them, from the first to the last");
        RuleRunner x = Checks.with("c1 := 1, c1 := 2");
        x.run(0, 0);
        Checks.cells("the last of two", x, 0, 2);
        x = Checks.with("c1 := 1, c1 := c1 + 5, c2 := c1");
        x.run(0, 0);
        Checks.cells("the SUM of the second knows nothing of the first", x, 0, 5);
        x.run(0, 0);
        Checks.cells("nor in the next run", x, 0, 10, 5);
        x = Checks.with("c1:=1,c1:=2,c1:=3,c1:=4,c1:=5,c1:=6,c1:=7,c1:=8");
        x.run(0, 0);
        Checks.cells("the last of eight", x, 0, 8);
        x = Checks.with("c1 := 5, c2 := 6, c1 := c1");
        x.run(0, 0);
        Checks.cells("back to what it was", x, 0, 0, 6);
    }

    private static void numberOfTheRule() {
        Checks.about("THE OUTCOME: the number of that RULE, from 1");
        RuleRunner x = Checks.with("if server=1 then c1:=1 else if server=2 then c1:=2 else if server=3"
                + " then c1:=3 else if server=4 then c1:=4 else if server=5 then c1:=5 else if server=6"
                + " then c1:=6");
        for (int server = 1; server <= 6; server++) {
            Checks.due("run(" + server + ", 0)", x.run(server, 0), server);
            Checks.due("cell(1)", x.cell(1), server);
        }
        Checks.due("run(7, 0)", x.run(7, 0), 0);
        Checks.due("run(0, 0)", x.run(0, 0), 0);
        Checks.cells("when no rule is taken", x, 0, 6);
        Checks.due("count(0)", x.count(0), 8);
    }

    private static void noneTaken() {
        Checks.about("0 if there is none (that is a run, too, and can be undone)");
        RuleRunner x = new RuleRunner();
        x.set(1, 3);
        Checks.accepted(x, "if server = 1 then c1 := 4");
        Checks.due("run of no rule", x.run(0, 0), 0);
        Checks.cells("after a run of no rule", x, 0, 3);
        Checks.due("count(0)", x.count(0), 1);
        Checks.due("run of a rule", x.run(1, 0), 1);
        Checks.due("run of no rule", x.run(2, 0), 0);
        Checks.due("count(0)", x.count(0), 3);
        Checks.due("undo of no rule", x.undo(), 2);
        Checks.cells("the run of no rule was undone", x, 0, 4);
        Checks.due("undo of a rule", x.undo(), 1);
        Checks.cells("the run of a rule was undone", x, 0, 3);
        Checks.due("undo of no rule", x.undo(), 0);
        Checks.cells("all were undone", x, 0, 3);
        Checks.due("undo of nothing", x.undo(), RuleRunner.NONE);
    }

    private static void aHeavyProgram() {
        Checks.about("DONE: a PROGRAM of 80 PARTS");
        RuleRunner x = Checks.with("if 1=2" + " and 1=1".repeat(37) + " then c1:=1 else c2:=c3+(server)");
        Checks.due("the second rule", x.run(5, 0), 2);
        Checks.cells("after 80 parts", x, 0, 0, 5);
        x = Checks.with("if 1=1" + " and 1=1".repeat(36) + " and 1=2 then c1:=1 else c2:=c3+(server)");
        Checks.due("the last COMPARE does not hold", x.run(5, 0), 2);
        x = Checks.with("c0:=1+(2*(3-(4+(5*(6-(7+8)*9" + "+1".repeat(71) + ")))))");
        Checks.due("run of 80 parts, six brackets deep", x.run(0, 0), 1);
        Checks.due("cell(0)", x.cell(0), 579);
        x = Checks.with("c31:=1" + "+server".repeat(40) + ",c30:=1" + "-1".repeat(38));
        Checks.due("run of 80 parts", x.run(3, 0), 1);
        Checks.due("cell(31)", x.cell(31), 121);
        Checks.due("cell(30)", x.cell(30), -37);
    }

    private static void noneWithoutAProgram() {
        Checks.about("NONE without a program");
        RuleRunner x = new RuleRunner();
        Checks.due("run", x.run(1, 2), RuleRunner.NONE);
        Checks.due("count(0)", x.count(0), 0);
        Checks.due("undo", x.undo(), RuleRunner.NONE);
        Checks.type(x, "c1 := 1");
        Checks.due("run while the text is on the tape", x.run(1, 2), RuleRunner.NONE);
        Checks.due("count(0)", x.count(0), 0);
        Checks.due("program", x.program(), RuleRunner.NONE);
        Checks.due("run", x.run(1, 2), 1);
        Checks.due("count(0)", x.count(0), 1);
    }

    private static RuleRunner afterRuns(String text, int many, int outcome) {
        RuleRunner x = Checks.with(text);
        for (int i = 1; i <= many; i++) {
            Checks.due("run " + i, x.run(0, 0), outcome);
        }
        return x;
    }

    private static void fullWithTwoHundred() {
        Checks.about("FULL with 200 that can be undone");
        RuleRunner x = afterRuns("c1 := c1 + 1", 199, 1);
        Checks.due("count(0)", x.count(0), 199);
        Checks.due("run 200", x.run(0, 0), 1);
        Checks.due("count(0)", x.count(0), 200);
        Checks.due("run 201", x.run(0, 0), RuleRunner.FULL);
        Checks.due("run 202", x.run(0, 0), RuleRunner.FULL);
        Checks.cells("after FULL", x, 0, 200);
        Checks.due("count(0) after FULL", x.count(0), 200);
        Checks.due("undo: FULL was no run", x.undo(), 199);
        Checks.cells("after an undo", x, 0, 199);
        Checks.due("run", x.run(0, 0), 1);
        Checks.due("run", x.run(0, 0), RuleRunner.FULL);
        Checks.cells("after FULL again", x, 0, 200);
    }

    private static void fullWithRunsOfNoRule() {
        Checks.about("FULL with 200 that can be undone: of which all took no RULE");
        RuleRunner x = afterRuns("if server = 1 then c1 := c1 + 1", 200, 0);
        Checks.due("run 201 of no rule", x.run(0, 0), RuleRunner.FULL);
        Checks.due("run 201 of a rule", x.run(1, 0), RuleRunner.FULL);
        Checks.cells("after FULL", x);
        Checks.due("undo", x.undo(), 199);
        Checks.due("run of a rule", x.run(1, 0), 1);
        Checks.due("run 201 of no rule", x.run(0, 0), RuleRunner.FULL);
        Checks.cells("after a run of a rule", x, 0, 1);
    }

    private static void fullWhateverTheProgram() {
        Checks.about("FULL with 200 that can be undone: by another PROGRAM, too");
        RuleRunner x = afterRuns("c1 := c1 + 1", 100, 1);
        Checks.accepted(x, "c2 := c2 + 1");
        for (int i = 101; i <= 200; i++) {
            Checks.due("run " + i, x.run(0, 0), 1);
        }
        Checks.due("run 201", x.run(0, 0), RuleRunner.FULL);
        Checks.accepted(x, "c3 := 1");
        Checks.due("run of a third program", x.run(0, 0), RuleRunner.FULL);
        Checks.cells("after FULL", x, 0, 100, 100);
    }
}
