/** Promise 6: runs are undone from the latest to the first. */
public final class UndoTest {
    public static void main(String[] args) {
        nothingToUndo();
        oneAfterAnother();
        aRunWithoutARule();
        aCellTwiceInARun();
        acrossPrograms();
        aFaultChangesNothing();
        allTwoHundredWithEightEffects();
        runsAfterUndo();
        undoneRunsTakeNoRoom();
        Checks.finish();
    }

    private static void nothingToUndo() {
        RuleRunner x = new RuleRunner();
        Checks.due("undo of nothing", x.undo(), RuleRunner.NONE);
        x.set(1, 5);
        Checks.accepted(x, "c1 := 1");
        Checks.due("undo before a run", x.undo(), RuleRunner.NONE);
        Checks.cells("after an undo of nothing", x, 0, 5);
        x.run(0, 0);
        Checks.due("undo", x.undo(), 0);
        Checks.due("undo of nothing more", x.undo(), RuleRunner.NONE);
        Checks.cells("after all", x, 0, 5);
        Checks.due("count(0)", x.count(0), 0);
    }

    private static void oneAfterAnother() {
        RuleRunner x = new RuleRunner();
        x.set(7, -7);
        Checks.accepted(x, "c7 := c7 * 2 + stamp, c31 := c31 - 1");
        x.run(0, 1);
        x.run(0, 2);
        x.run(0, 3);
        Checks.due("cell(7)", x.cell(7), -45);
        Checks.due("cell(31)", x.cell(31), -3);
        Checks.due("undo", x.undo(), 2);
        Checks.due("cell(7)", x.cell(7), -24);
        Checks.due("cell(31)", x.cell(31), -2);
        Checks.due("undo", x.undo(), 1);
        Checks.due("cell(7)", x.cell(7), -13);
        Checks.due("undo", x.undo(), 0);
        Checks.cells("after all", x, 0, 0, 0, 0, 0, 0, 0, -7);
    }

    private static void aRunWithoutARule() {
        RuleRunner x = Checks.with("if server = 1 then c1 := c1 + 1");
        Checks.due("run", x.run(1, 0), 1);
        Checks.due("run without a rule", x.run(0, 0), 0);
        Checks.due("run without a rule", x.run(0, 0), 0);
        Checks.due("undo", x.undo(), 2);
        Checks.cells("a run without a rule was undone", x, 0, 1);
        Checks.due("undo", x.undo(), 1);
        Checks.cells("another was undone", x, 0, 1);
        Checks.due("undo", x.undo(), 0);
        Checks.cells("all was undone", x);
    }

    private static void aCellTwiceInARun() {
        RuleRunner x = new RuleRunner();
        x.set(1, 9);
        Checks.accepted(x, "c1 := 1, c2 := 2, c1 := 3, c1 := c1");
        x.run(0, 0);
        Checks.cells("after the run", x, 0, 9, 2);
        Checks.accepted(x, "c1 := 1, c1 := 3");
        x.run(0, 0);
        Checks.cells("after the second run", x, 0, 3, 2);
        Checks.due("undo", x.undo(), 1);
        Checks.cells("after the undo", x, 0, 9, 2);
        Checks.due("undo", x.undo(), 0);
        Checks.cells("after the second undo", x, 0, 9);
    }

    private static void acrossPrograms() {
        RuleRunner x = Checks.with("c1 := 11, c2 := 22");
        x.run(0, 0);
        Checks.accepted(x, "c2 := 5, c3 := 6");
        x.run(0, 0);
        Checks.accepted(x, "c4 := 1");
        Checks.due("undo", x.undo(), 1);
        Checks.cells("the second program's run was undone", x, 0, 11, 22);
        Checks.due("undo", x.undo(), 0);
        Checks.cells("the first program's run was undone", x);
        Checks.due("run of the third", x.run(0, 0), 1);
        Checks.cells("the third ran", x, 0, 0, 0, 0, 1);
    }

    private static void aFaultChangesNothing() {
        RuleRunner x = Checks.with("c1 := 11");
        x.run(0, 0);
        Checks.due("a fault", Checks.program(x, "c1 := 12 12"), 9);
        Checks.due("count(0)", x.count(0), 1);
        Checks.cells("after a fault", x, 0, 11);
        Checks.due("undo", x.undo(), 0);
        Checks.cells("after an undo", x);
    }

    private static void allTwoHundredWithEightEffects() {
        RuleRunner x = new RuleRunner();
        x.set(9, 100);
        Checks.accepted(x, "c1:=c1+1,c2:=c1,c3:=c2,c4:=c3,c5:=c4,c6:=c5,c7:=stamp,c9:=c9-1");
        for (int i = 0; i < 200; i++) {
            Checks.due("run " + i, x.run(0, i), 1);
        }
        Checks.cells("after all", x, 0, 200, 199, 198, 197, 196, 195, 199, 0, -100);
        for (int i = 199; i >= 0; i--) {
            Checks.due("undo", x.undo(), i);
            if (i % 10 == 0) {
                Checks.due("cell(1)", x.cell(1), i);
            }
        }
        Checks.cells("after all undos", x, 0, 0, 0, 0, 0, 0, 0, 0, 0, 100);
        Checks.due("undo", x.undo(), RuleRunner.NONE);
    }

    private static void runsAfterUndo() {
        RuleRunner x = Checks.with("c1 := c1 + server, c2 := stamp");
        x.run(1, 1);
        x.run(2, 2);
        Checks.due("undo", x.undo(), 1);
        x.run(40, 3);
        Checks.cells("after a run behind an undo", x, 0, 41, 3);
        Checks.due("undo", x.undo(), 1);
        Checks.cells("it is undone", x, 0, 1, 1);
        Checks.due("undo", x.undo(), 0);
        Checks.cells("all is undone", x);
    }

    private static void undoneRunsTakeNoRoom() {
        RuleRunner x = Checks.with("c1:=1,c2:=2,c3:=3,c4:=4,c5:=5,c6:=6,c7:=7,c0:=c0+1");
        x.run(0, 0);
        for (int i = 0; i < 201; i++) {
            Checks.due("run " + i, x.run(0, 0), 1);
            Checks.due("undo " + i, x.undo(), 1);
        }
        Checks.due("the last run", x.run(0, 0), 1);
        Checks.due("cell(0) after the last run", x.cell(0), 2);
        Checks.due("undo of the last run", x.undo(), 1);
        Checks.cells("after many undos", x, 1, 1, 2, 3, 4, 5, 6, 7);
        Checks.due("undo of the first", x.undo(), 0);
        Checks.cells("after the last undo", x);
    }
}
