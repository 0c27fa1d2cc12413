/** The term CELLS, and promises 1, 7, 8 and 9. */
public final class CellTest {
    private static final long NO_CELL = 1099511627776L;
    private static final int REFUSED = RuleRunner.REFUSED, FULL = RuleRunner.FULL;
    private static final int LOWEST = Integer.MIN_VALUE, HIGHEST = Integer.MAX_VALUE;

    public static void main(String[] args) {
        zeroAtFirst();
        newObject();
        zeroTo31();
        valueOfACell();
        noCell();
        setACell();
        setAnotherCell();
        setIfSomethingCanBeUndone();
        setAnotherCellIfSomethingCanBeUndone();
        setWithAProgram();
        countOfRuns();
        countOfBytes();
        countOfOthers();
        objectsAreApart();
        Checks.finish();
    }

    private static void zeroAtFirst() {
        Checks.about("CELLS 0 to 31: ints, 0 at first");
        Checks.cells("of a new object", new RuleRunner());
        RuleRunner x = Checks.with("if c0 = 0 and c31 = 0 then c1 := c0 + c31 + 1");
        Checks.due("run", x.run(0, 0), 1);
        Checks.due("cell(1)", x.cell(1), 1);
    }

    private static void newObject() {
        Checks.about("makes an object in the state that the terms give");
        RuleRunner x = new RuleRunner();
        Checks.due("count(0)", x.count(0), 0);
        Checks.due("count(1)", x.count(1), 0);
        Checks.due("run", x.run(0, 0), RuleRunner.NONE);
        Checks.due("undo", x.undo(), RuleRunner.NONE);
        Checks.due("program", x.program(), 0);
        Checks.due("set", x.set(0, 1), 0);
    }

    private static void zeroTo31() {
        Checks.about("CELLS 0 to 31");
        RuleRunner x = new RuleRunner();
        int[] wanted = new int[32];
        for (int c = 0; c < 32; c++) {
            wanted[c] = c * 1000003 - 7;
            Checks.due("set(" + c + ")", x.set(c, wanted[c]), 0);
        }
        Checks.cells("after set", x, wanted);
    }

    private static void valueOfACell() {
        Checks.about("A cell: any int");
        RuleRunner x = new RuleRunner();
        int[] values = {LOWEST, LOWEST + 1, -1, 0, 1, HIGHEST - 1, HIGHEST};
        for (int v : values) {
            Checks.due("set(31, " + v + ")", x.set(31, v), 0);
            Checks.due("cell(31)", x.cell(31), v);
            Checks.due("set(0, " + v + ")", x.set(0, v), 0);
            Checks.due("cell(0)", x.cell(0), v);
        }
    }

    private static void noCell() {
        Checks.about("A cell; 2^40 if there is none");
        RuleRunner x = new RuleRunner();
        Checks.due("cell(-1)", x.cell(-1), NO_CELL);
        Checks.due("cell(0)", x.cell(0), 0);
        Checks.due("cell(31)", x.cell(31), 0);
        Checks.due("cell(32)", x.cell(32), NO_CELL);
        Checks.due("cell(33)", x.cell(33), NO_CELL);
        Checks.due("cell(256)", x.cell(256), NO_CELL);
        Checks.due("cell(-32)", x.cell(-32), NO_CELL);
        Checks.due("cell(lowest)", x.cell(LOWEST), NO_CELL);
        Checks.due("cell(highest)", x.cell(HIGHEST), NO_CELL);
    }

    private static void setACell() {
        Checks.about("A cell becomes v: 0");
        RuleRunner x = new RuleRunner();
        Checks.due("set(5, 6)", x.set(5, 6), 0);
        Checks.due("set(5, 7)", x.set(5, 7), 0);
        Checks.due("set(5, -8)", x.set(5, -8), 0);
        Checks.cells("after set", x, 0, 0, 0, 0, 0, -8);
        Checks.due("count(0): a set is no run", x.count(0), 0);
        Checks.due("undo: a set is no run", x.undo(), RuleRunner.NONE);
        Checks.cells("after undo", x, 0, 0, 0, 0, 0, -8);
    }

    private static void setAnotherCell() {
        Checks.about("REFUSED for another cell");
        RuleRunner x = new RuleRunner();
        Checks.due("set(-1)", x.set(-1, 5), REFUSED);
        Checks.due("set(0)", x.set(0, 0), 0);
        Checks.due("set(31)", x.set(31, 0), 0);
        Checks.due("set(32)", x.set(32, 5), REFUSED);
        Checks.due("set(33)", x.set(33, 5), REFUSED);
        Checks.due("set(-32)", x.set(-32, 5), REFUSED);
        Checks.due("set(lowest)", x.set(LOWEST, 5), REFUSED);
        Checks.due("set(highest)", x.set(HIGHEST, 5), REFUSED);
        Checks.cells("after refused sets", x);
    }

    private static void setIfSomethingCanBeUndone() {
        Checks.about("FULL if something can be undone");
        RuleRunner x = Checks.with("if server = 1 then c1 := 1");
        Checks.due("set before a run", x.set(1, 4), 0);
        x.run(0, 0);
        Checks.due("set after a run without a rule", x.set(1, 5), FULL);
        Checks.cells("after FULL", x, 0, 4);
        x.undo();
        Checks.due("set after undo", x.set(1, 6), 0);
        x.run(1, 0);
        x.run(1, 0);
        Checks.due("set after two runs", x.set(2, 5), FULL);
        Checks.cells("after FULL", x, 0, 1);
        Checks.due("undo", x.undo(), 1);
        Checks.due("set after one of two undos", x.set(1, 5), FULL);
        Checks.due("undo", x.undo(), 0);
        Checks.cells("after both undos", x, 0, 6);
        Checks.due("set after both undos", x.set(1, 7), 0);
        Checks.cells("after the last set", x, 0, 7);
    }

    private static void setAnotherCellIfSomethingCanBeUndone() {
        Checks.about("REFUSED for another cell; FULL if something can be undone");
        RuleRunner x = Checks.with("c1 := 1");
        x.run(0, 0);
        Checks.due("set of no cell", x.set(32, 5), REFUSED);
        Checks.due("set of no cell", x.set(-1, 5), REFUSED);
        Checks.due("set of a cell", x.set(31, 5), FULL);
        Checks.due("set of a cell", x.set(0, 5), FULL);
        Checks.cells("after all", x, 0, 1);
    }

    private static void setWithAProgram() {
        Checks.about("FULL if something can be undone: a PROGRAM alone is nothing to undo");
        RuleRunner x = Checks.with("c1 := c1 + 1");
        Checks.due("set", x.set(1, 4), 0);
        Checks.type(x, "c1 :=");
        Checks.due("set with bytes on the tape", x.set(1, 5), 0);
        Checks.due("a fault", x.program(), 5);
        Checks.due("set after a fault", x.set(1, 6), 0);
        Checks.due("run", x.run(0, 0), 1);
        Checks.due("cell(1)", x.cell(1), 7);
    }

    private static void countOfRuns() {
        Checks.about("What 0: runs that can be undone");
        RuleRunner x = new RuleRunner();
        Checks.due("count(0) of a new object", x.count(0), 0);
        Checks.accepted(x, "if server = 1 then c1 := 1");
        Checks.due("count(0) before a run", x.count(0), 0);
        x.run(1, 0);
        Checks.due("count(0) after a run", x.count(0), 1);
        x.run(0, 0);
        Checks.due("count(0) after a run without a rule", x.count(0), 2);
        x.feed(0, 0, 0, 0, 0);
        x.program();
        Checks.due("count(0) after a fault", x.count(0), 2);
        x.undo();
        Checks.due("count(0) after undo", x.count(0), 1);
        x.undo();
        Checks.due("count(0) after the last undo", x.count(0), 0);
        x.undo();
        Checks.due("count(0) after an undo of nothing", x.count(0), 0);
    }

    private static void countOfBytes() {
        Checks.about("What 1: bytes on the TAPE");
        RuleRunner x = new RuleRunner();
        Checks.due("count(1) of a new object", x.count(1), 0);
        x.feed(0, 0, 0, 0, 0);
        Checks.due("count(1) after feed", x.count(1), 20);
        x.feed(0, 0, 0, 0, 0);
        Checks.due("count(1) after another", x.count(1), 40);
        x.end(39);
        Checks.due("count(1) after end", x.count(1), 39);
        x.end(40);
        Checks.due("count(1) after a refused end", x.count(1), 39);
        x.program();
        Checks.due("count(1) after program", x.count(1), 0);
    }

    private static void countOfOthers() {
        Checks.about("REFUSED for others");
        RuleRunner x = Checks.with("c1 := 1");
        x.run(0, 0);
        x.feed(0, 0, 0, 0, 0);
        Checks.due("count(-1)", x.count(-1), REFUSED);
        Checks.due("count(0)", x.count(0), 1);
        Checks.due("count(1)", x.count(1), 20);
        Checks.due("count(2)", x.count(2), REFUSED);
        Checks.due("count(3)", x.count(3), REFUSED);
        Checks.due("count(lowest)", x.count(LOWEST), REFUSED);
        Checks.due("count(highest)", x.count(HIGHEST), REFUSED);
    }

    private static void objectsAreApart() {
        Checks.about("makes an object: of its own");
        RuleRunner x = Checks.with("c1 := 1");
        RuleRunner y = new RuleRunner();
        x.run(0, 0);
        x.feed(0, 0, 0, 0, 0);
        Checks.cells("of another object", y);
        Checks.due("run of another object", y.run(0, 0), RuleRunner.NONE);
        Checks.due("count(0) of another object", y.count(0), 0);
        Checks.due("count(1) of another object", y.count(1), 0);
        Checks.due("set of another object", y.set(1, 2), 0);
        Checks.due("cell(1) of the first", x.cell(1), 1);
    }
}
