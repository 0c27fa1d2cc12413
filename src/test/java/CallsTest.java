/** How many calls an object is good for, and that none of them throws: an exception ends the test. */
public final class CallsTest {
    private static final int[] EDGES = {
        Integer.MIN_VALUE, Integer.MIN_VALUE + 1, -401, -33, -2, -1, 0, 1, 2, 19, 20, 31, 32, 33, 80,
        199, 200, 201, 380, 399, 400, 401, 511, 512, 1 << 16, Integer.MAX_VALUE - 1, Integer.MAX_VALUE};

    public static void main(String[] args) {
        allAnswersOf512Calls();
        laterCallsEnd();
        anyArguments();
        Checks.finish();
    }

    private static void allAnswersOf512Calls() {
        Checks.about("An object is used for at most 512 calls after it has been made");
        // "c1:=c1+1" and blanks.
        RuleRunner x = new RuleRunner();
        Checks.due("feed", x.feed(0x63313a3d, 0x63312b31, 0x20202020, 0x20202020, 0x20202020), 20);
        Checks.due("program", x.program(), RuleRunner.NONE);
        for (int i = 0; i < 200; i++) {
            Checks.due("run " + i, x.run(i, -i), 1);
        }
        Checks.due("run with 200", x.run(0, 0), RuleRunner.FULL);
        for (int i = 199; i >= 0; i--) {
            Checks.due("undo", x.undo(), i);
        }
        Checks.due("undo of none", x.undo(), RuleRunner.NONE);
        for (int i = 1; i <= 104; i++) {
            Checks.due("run " + i + " after the undos", x.run(0, 0), 1);
        }
        Checks.due("count(0)", x.count(0), 104);
        Checks.due("undo", x.undo(), 103);
        Checks.due("feed", x.feed(0, 0, 0, 0, 0), 20);
        Checks.due("the 512th call", x.cell(1), 103);
    }

    private static void laterCallsEnd() {
        Checks.about("what later calls answer is free: but they do answer");
        RuleRunner x = Checks.with("c1 := c1 + 1, c1 := c1 * stamp, c2 := server");
        for (int i = 0; i < 5000; i++) {
            everyCall(x, i);
        }
        Checks.due("all of them came to an end", 1, 1);
    }

    private static void anyArguments() {
        Checks.about("No call may ever throw by itself, for any arguments in any state");
        RuleRunner[] states = {new RuleRunner(), Checks.with("c31 := server * stamp else c0 := 1"),
            Checks.with("if server = stamp then c0 := 2147483647 + server")};
        for (RuleRunner x : states) {
            for (int edge : EDGES) {
                everyCall(x, edge);
            }
        }
        Checks.due("all of them came to an end", 1, 1);
    }

    private static void everyCall(RuleRunner x, int any) {
        x.feed(any, -any, any << 8, ~any, any * any);
        x.end(any);
        x.cell(any);
        x.set(any, any);
        x.count(any);
        x.run(any, -any);
        if (any % 3 == 0) {
            x.undo();
        }
        if (any % 7 == 0) {
            x.program();
        }
    }
}
