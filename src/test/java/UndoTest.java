/** Promise 6: runs are undone from the latest to the first. */
public final class UndoTest {
    public static void main(String[] args) {
        noneIfThereIsNone();
        theLatest();
        aRunThatWasNotUndone();
        allCells();
        aRunWithoutARule();
        aCellTwiceInARun();
        valuesAtTheEdges();
        howManyCanStillBe();
        aFaultLeavesTheRuns();
        undoneRunsTakeNoRoom();
        Checks.finish();
    }

    private static void noneIfThereIsNone() {
        Checks.about("NONE if there is none");
        RuleRunner x = new RuleRunner();
        Checks.due("undo of nothing", x.undo(), RuleRunner.NONE);
        x.set(1, 5);
        Checks.due("undo after set", x.undo(), RuleRunner.NONE);
        Checks.accepted(x, "c1 := 1");
        Checks.due("undo before a run", x.undo(), RuleRunner.NONE);
        Checks.cells("after an undo of nothing", x, 0, 5);
        x.run(0, 0);
        Checks.due("undo", x.undo(), 0);
        Checks.due("undo of nothing more", x.undo(), RuleRunner.NONE);
        Checks.due("undo of nothing more", x.undo(), RuleRunner.NONE);
        Checks.cells("after all", x, 0, 5);
        Checks.due("count(0)", x.count(0), 0);
        Checks.due("run after all", x.run(0, 0), 1);
        Checks.due("undo after all", x.undo(), 0);
    }

    private static void theLatest() {
        Checks.about("The latest run is undone");
        RuleRunner x = new RuleRunner();
        x.set(7, -7);
        Checks.accepted(x, "c7 := c7 * 2 + stamp, c31 := c31 - 1");
        x.run(0, 1);
        x.run(0, 2);
        x.run(0, 3);
        Checks.due("cell(7)", x.cell(7), -45);
        Checks.due("cell(31)", x.cell(31), -3);
        Checks.due("undo", x.undo(), 2);
        Checks.due("cell(7)", x.cell(7), -24);
        Checks.due("cell(31)", x.cell(31), -2);
        Checks.due("undo", x.undo(), 1);
        Checks.due("cell(7)", x.cell(7), -13);
        Checks.due("undo", x.undo(), 0);
        Checks.cells("after all", x, 0, 0, 0, 0, 0, 0, 0, -7);
    }

    private static void aRunThatWasNotUndone() {
        Checks.about("The latest run that was not undone is undone");
        RuleRunner x = Checks.with("c1 := c1 + server, c2 := stamp");
        x.run(1, 1);
        x.run(2, 2);
        Checks.due("undo", x.undo(), 1);
        x.run(40, 3);
        Checks.cells("after a run behind an undo", x, 0, 41, 3);
        Checks.due("undo", x.undo(), 1);
        Checks.cells("it is undone", x, 0, 1, 1);
        Checks.due("undo", x.undo(), 0);
        Checks.cells("all is undone", x);
    }

    private static void allCells() {
        Checks.about("all cells are as they were before");
        RuleRunner x = new RuleRunner();
        int[] first = new int[32], second = new int[32];
        for (int c = 0; c < 32; c++) {
            first[c] = 1000 - c;
            second[c] = c < 8 || c > 23 ? -c - 1 : first[c];
            x.set(c, first[c]);
        }
        Checks.accepted(x, "c0:=0-1,c1:=0-2,c2:=0-3,c3:=0-4,c4:=0-5,c5:=0-6,c6:=0-7,c7:=0-8");
        x.run(0, 0);
        Checks.accepted(x, "c24:=0-25,c25:=0-26,c26:=0-27,c27:=0-28,c28:=0-29,c29:=0-30,c30:=0-31,c31:=0-32");
        x.run(0, 0);
        Checks.cells("after both runs", x, second);
        Checks.due("undo", x.undo(), 1);
        Checks.due("cell(24)", x.cell(24), 976);
        Checks.due("cell(7)", x.cell(7), -8);
        Checks.due("undo", x.undo(), 0);
        Checks.cells("after both undos", x, first);
    }

    private static void aRunWithoutARule() {
        Checks.about("all cells are as they were before: a run that took no RULE");
        RuleRunner x = Checks.with("if server = 1 then c1 := c1 + 1");
        Checks.due("run", x.run(1, 0), 1);
        Checks.due("run without a rule", x.run(0, 0), 0);
        Checks.due("run without a rule", x.run(0, 0), 0);
        Checks.due("undo", x.undo(), 2);
        Checks.cells("a run without a rule was undone", x, 0, 1);
        Checks.due("undo", x.undo(), 1);
        Checks.cells("another was undone", x, 0, 1);
        Checks.due("undo", x.undo(), 0);
        Checks.cells("all was undone", x);
    }

    private static void aCellTwiceInARun() {
        Checks.about("all cells are as they were before: one that became something twice");
        RuleRunner x = new RuleRunner();
        x.set(1, 9);
        Checks.accepted(x, "c1 := 1, c2 := 2, c1 := 3, c1 := c1");
        x.run(0, 0);
        Checks.cells("after the run", x, 0, 9, 2);
        Checks.accepted(x, "c1 := 1, c1 := 3");
        x.run(0, 0);
        Checks.cells("after the second run", x, 0, 3, 2);
        Checks.due("undo", x.undo(), 1);
        Checks.cells("after the undo", x, 0, 9, 2);
        Checks.due("undo", x.undo(), 0);
        Checks.cells("after the second undo", x, 0, 9);
    }

    private static void valuesAtTheEdges() {
        Checks.about("all cells are as they were before: the lowest and the highest int");
        RuleRunner x = new RuleRunner();
        x.set(0, Integer.MIN_VALUE);
        x.set(1, Integer.MAX_VALUE);
        Checks.accepted(x, "c0 := c0 - 1, c1 := c1 + 1");
        x.run(0, 0);
        Checks.cells("after a run that wraps", x, Integer.MAX_VALUE, Integer.MIN_VALUE);
        Checks.due("undo", x.undo(), 0);
        Checks.cells("after the undo", x, Integer.MIN_VALUE, Integer.MAX_VALUE);
    }

    private static void howManyCanStillBe() {
        Checks.about("how many can still be: from 200 runs of eight EFFECTS on");
        RuleRunner x = new RuleRunner();
        x.set(9, 100);
        Checks.accepted(x, "c1:=c1+1,c2:=c1,c3:=c2,c4:=c3,c5:=c4,c6:=c5,c7:=stamp,c9:=c9-1");
        for (int i = 0; i < 200; i++) {
            Checks.due("run " + i, x.run(0, i), 1);
        }
        Checks.cells("after all", x, 0, 200, 199, 198, 197, 196, 195, 199, 0, -100);
        for (int i = 199; i >= 0; i--) {
            Checks.due("undo", x.undo(), i);
            if (i % 10 == 0) {
                Checks.due("cell(1)", x.cell(1), i);
            }
        }
        Checks.cells("after all undos", x, 0, 0, 0, 0, 0, 0, 0, 0, 0, 100);
        Checks.due("undo", x.undo(), RuleRunner.NONE);
    }

    private static void aFaultLeavesTheRuns() {
        Checks.about("The latest run is undone: after a FAULT, too");
        RuleRunner x = Checks.with("c1 := 11");
        x.run(0, 0);
        Checks.reads(x, "c1 := 12 12", 9);
        Checks.due("count(0)", x.count(0), 1);
        Checks.cells("after a fault", x, 0, 11);
        Checks.due("undo", x.undo(), 0);
        Checks.cells("after an undo", x);
    }

    private static void undoneRunsTakeNoRoom() {
        Checks.about("FULL with 200 that can be undone: those that were undone can not");
        RuleRunner x = Checks.with("c1:=1,c2:=2,c3:=3,c4:=4,c5:=5,c6:=6,c7:=7,c0:=c0+1");
        x.run(0, 0);
        for (int i = 0; i < 201; i++) {
            Checks.due("run " + i, x.run(0, 0), 1);
            Checks.due("undo " + i, x.undo(), 1);
        }
        Checks.due("the last run", x.run(0, 0), 1);
        Checks.due("cell(0) after the last run", x.cell(0), 2);
        Checks.due("undo of the last run", x.undo(), 1);
        Checks.cells("after many undos", x, 1, 1, 2, 3, 4, 5, 6, 7);
        Checks.due("undo of the first", x.undo(), 0);
        Checks.cells("after the last undo", x);
    }
}
