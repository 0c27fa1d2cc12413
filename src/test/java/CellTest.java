/** Promises 1, 7 and 8 about the cells, and 9 about what is counted. */
public final class CellTest {
    private static final long NO_CELL = 1099511627776L;

    public static void main(String[] args) {
        newObject();
        cellsThatAreNone();
        setCells();
        setRefuses();
        setWhileSomethingCanBeUndone();
        counts();
        objectsAreApart();
        Checks.finish();
    }

    private static void newObject() {
        RuleRunner x = new RuleRunner();
        Checks.cells("of a new object", x);
        Checks.due("count(0)", x.count(0), 0);
        Checks.due("count(1)", x.count(1), 0);
        Checks.due("run", x.run(0, 0), RuleRunner.NONE);
        Checks.due("undo", x.undo(), RuleRunner.NONE);
        Checks.due("program", x.program(), 0);
    }

    private static void cellsThatAreNone() {
        RuleRunner x = new RuleRunner();
        Checks.due("cell(-1)", x.cell(-1), NO_CELL);
        Checks.due("cell(32)", x.cell(32), NO_CELL);
        Checks.due("cell(lowest)", x.cell(Integer.MIN_VALUE), NO_CELL);
        Checks.due("cell(highest)", x.cell(Integer.MAX_VALUE), NO_CELL);
    }

    private static void setCells() {
        RuleRunner x = new RuleRunner();
        int[] wanted = new int[32];
        for (int c = 0; c < 32; c++) {
            wanted[c] = c * 1000003 - 7;
            Checks.due("set(" + c + ")", x.set(c, wanted[c]), 0);
        }
        Checks.cells("after set", x, wanted);
        Checks.due("set(31, lowest)", x.set(31, Integer.MIN_VALUE), 0);
        Checks.due("cell(31)", x.cell(31), Integer.MIN_VALUE);
        Checks.due("set(0, highest)", x.set(0, Integer.MAX_VALUE), 0);
        Checks.due("cell(0)", x.cell(0), Integer.MAX_VALUE);
        Checks.due("count(0): a set is no run", x.count(0), 0);
        Checks.due("undo: a set is no run", x.undo(), RuleRunner.NONE);
    }

    private static void setRefuses() {
        RuleRunner x = new RuleRunner();
        Checks.due("set(-1)", x.set(-1, 5), RuleRunner.REFUSED);
        Checks.due("set(32)", x.set(32, 5), RuleRunner.REFUSED);
        Checks.due("set(lowest)", x.set(Integer.MIN_VALUE, 5), RuleRunner.REFUSED);
        Checks.due("set(highest)", x.set(Integer.MAX_VALUE, 5), RuleRunner.REFUSED);
        Checks.cells("after refused sets", x);
    }

    private static void setWhileSomethingCanBeUndone() {
        RuleRunner x = Checks.with("if server = 1 then c1 := 1");
        Checks.due("set before a run", x.set(1, 4), 0);
        x.run(0, 0);
        Checks.due("set after a run without a rule", x.set(1, 5), RuleRunner.FULL);
        Checks.due("set of no cell", x.set(32, 5), RuleRunner.REFUSED);
        Checks.due("set of no cell", x.set(-1, 5), RuleRunner.REFUSED);
        Checks.cells("after FULL", x, 0, 4);
        x.undo();
        Checks.due("set after undo", x.set(1, 6), 0);
        x.run(1, 0);
        Checks.due("set after a run", x.set(2, 5), RuleRunner.FULL);
        Checks.cells("after FULL", x, 0, 1);
        x.undo();
        Checks.cells("after undo", x, 0, 6);
    }

    private static void counts() {
        RuleRunner x = Checks.with("c1 := 1");
        x.run(0, 0);
        x.run(0, 0);
        x.feed(0, 0, 0, 0, 0);
        Checks.due("count(0)", x.count(0), 2);
        Checks.due("count(1)", x.count(1), 20);
        Checks.due("count(2)", x.count(2), RuleRunner.REFUSED);
        Checks.due("count(-1)", x.count(-1), RuleRunner.REFUSED);
        Checks.due("count(lowest)", x.count(Integer.MIN_VALUE), RuleRunner.REFUSED);
        Checks.due("count(highest)", x.count(Integer.MAX_VALUE), RuleRunner.REFUSED);
        x.undo();
        Checks.due("count(0) after undo", x.count(0), 1);
        x.end(6);
        Checks.due("count(1) after end", x.count(1), 6);
        x.program();
        Checks.due("count(0) after program", x.count(0), 1);
        Checks.due("count(1) after program", x.count(1), 0);
    }

    private static void objectsAreApart() {
        RuleRunner x = Checks.with("c1 := 1");
        RuleRunner y = new RuleRunner();
        x.run(0, 0);
        x.feed(0, 0, 0, 0, 0);
        Checks.cells("of another object", y);
        Checks.due("run of another object", y.run(0, 0), RuleRunner.NONE);
        Checks.due("count(0) of another object", y.count(0), 0);
        Checks.due("count(1) of another object", y.count(1), 0);
        Checks.due("set of another object", y.set(1, 2), 0);
        Checks.due("cell(1) of the first", x.cell(1), 1);
    }
}
