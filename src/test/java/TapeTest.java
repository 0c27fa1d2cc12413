/** Promises 1, 2, 3 and 9, as far as they are about the tape. */
public final class TapeTest {
    public static void main(String[] args) {
        newTapeIsEmpty();
        feedUpToTheLimit();
        feedAfterACut();
        bytesComeHighestFirst();
        endCuts();
        endRefuses();
        programEmptiesTheTape();
        otherCallsLeaveTheTape();
        Checks.finish();
    }

    private static void newTapeIsEmpty() {
        RuleRunner x = new RuleRunner();
        Checks.due("count(1) of a new object", x.count(1), 0);
        Checks.due("end(1) of a new object", x.end(1), RuleRunner.REFUSED);
        Checks.due("end(0) of a new object", x.end(0), 0);
    }

    private static void feedUpToTheLimit() {
        RuleRunner x = new RuleRunner();
        for (int i = 1; i <= 20; i++) {
            Checks.due("feed " + i, x.feed(-1, 0, 1, Integer.MIN_VALUE, Integer.MAX_VALUE), i * 20);
            Checks.due("count(1) after feed " + i, x.count(1), i * 20);
        }
        Checks.due("feed 21", x.feed(0, 0, 0, 0, 0), RuleRunner.FULL);
        Checks.due("count(1) after FULL", x.count(1), 400);
        Checks.due("end(400) after FULL", x.end(400), 400);
        Checks.due("end(401)", x.end(401), RuleRunner.REFUSED);
    }

    private static void feedAfterACut() {
        RuleRunner x = new RuleRunner();
        for (int i = 0; i < 20; i++) {
            x.feed(0, 0, 0, 0, 0);
        }
        Checks.due("end(381)", x.end(381), 381);
        Checks.due("feed to 401", x.feed(0, 0, 0, 0, 0), RuleRunner.FULL);
        Checks.due("count(1) stays", x.count(1), 381);
        Checks.due("end(380)", x.end(380), 380);
        Checks.due("feed to 400", x.feed(0, 0, 0, 0, 0), 400);
        Checks.due("end(3)", x.end(3), 3);
        Checks.due("feed to 23", x.feed(0, 0, 0, 0, 0), 23);
    }

    private static void bytesComeHighestFirst() {
        RuleRunner x = new RuleRunner();
        // "c12 := 3 * 4 + 5 - 6"
        int fed = x.feed(0x63313220, 0x3a3d2033, 0x202a2034, 0x202b2035, 0x202d2036);
        Checks.due("feed of a program", fed, 20);
        Checks.due("program", x.program(), RuleRunner.NONE);
        Checks.due("run", x.run(0, 0), 1);
        Checks.due("cell(12)", x.cell(12), 11);
        // The bytes fed after a cut follow the ones that were left: "c12 := 3" and "123*2 ..."
        x.feed(0x63313220, 0x3a3d2033, 0x202a2034, 0x202b2035, 0x202d2036);
        Checks.due("end(8)", x.end(8), 8);
        Checks.due("feed behind the rest",
                x.feed(0x3132332a, 0x32202020, 0x20202020, 0x20202020, 0x20202020), 28);
        Checks.due("program of both", x.program(), RuleRunner.NONE);
        Checks.due("run of both", x.run(0, 0), 1);
        Checks.due("cell(12) of both", x.cell(12), 6246);
    }

    private static void endCuts() {
        RuleRunner x = new RuleRunner();
        Checks.type(x, "c1 := 1234567890");
        Checks.due("end of all", x.end(16), 16);
        Checks.due("end(9)", x.end(9), 9);
        Checks.due("count(1)", x.count(1), 9);
        Checks.due("program of the first bytes", x.program(), RuleRunner.NONE);
        Checks.due("run", x.run(0, 0), 1);
        Checks.due("cell(1)", x.cell(1), 123);
    }

    private static void endRefuses() {
        RuleRunner x = new RuleRunner();
        x.feed(0, 0, 0, 0, 0);
        Checks.due("end(21)", x.end(21), RuleRunner.REFUSED);
        Checks.due("end(-1)", x.end(-1), RuleRunner.REFUSED);
        Checks.due("end(lowest)", x.end(Integer.MIN_VALUE), RuleRunner.REFUSED);
        Checks.due("end(highest)", x.end(Integer.MAX_VALUE), RuleRunner.REFUSED);
        Checks.due("count(1) stays", x.count(1), 20);
        Checks.due("end(0)", x.end(0), 0);
        Checks.due("count(1) after end(0)", x.count(1), 0);
        Checks.due("end(1) of an empty tape", x.end(1), RuleRunner.REFUSED);
    }

    private static void programEmptiesTheTape() {
        RuleRunner x = new RuleRunner();
        Checks.accepted(x, "c1 := 1");
        Checks.due("count(1) after a program", x.count(1), 0);
        Checks.due("program of c1", Checks.program(x, "c1"), 2);
        Checks.due("count(1) after a fault", x.count(1), 0);
        Checks.due("feed after a fault", x.feed(0, 0, 0, 0, 0), 20);
    }

    private static void otherCallsLeaveTheTape() {
        RuleRunner x = Checks.with("c1 := 1");
        Checks.type(x, "c2 := 2");
        x.run(0, 0);
        x.undo();
        x.set(3, 3);
        x.cell(3);
        Checks.due("count(1) after other calls", x.count(1), 7);
        Checks.due("count(1) once more", x.count(1), 7);
        Checks.due("program", x.program(), RuleRunner.NONE);
    }
}
