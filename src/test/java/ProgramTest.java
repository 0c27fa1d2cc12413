/** Promise 4: which program is the one from now on. */
public final class ProgramTest {
    public static void main(String[] args) {
        texts();
        noneForAProgram();
        theOneFromNowOn();
        runsOfTheOneBefore();
        noProgramAfterAFault();
        theOneBeforeStays();
        theOneBeforeStaysWhateverTheFault();
        programChangesNoCell();
        Checks.finish();
    }

    private static void texts() {
        Checks.about("Grammar");
        Checks.accepted("c0 := 0");
        Checks.accepted("  c 31  :=  server  +  stamp  ");
        Checks.accepted("if 1 = 1 then c1 := 1");
        Checks.accepted("if 1 # 1 and c2 < 3 and (c3) > 4 * 5 then c1 := 1, c2 := 2 else c3 := 3");
        Checks.accepted("c1 := 1 else c2 := 2");
        Checks.accepted("c1 := 1 else if 1 = 2 then c2 := 2");
        Checks.accepted("c1 := c2 - (c3 - (c4 * 5)) * stamp");
        Checks.accepted("c1 := 1, c1 := 2");
    }

    private static void noneForAProgram() {
        Checks.about("which is the one from now on: NONE");
        RuleRunner x = new RuleRunner();
        Checks.type(x, "c1 := 1");
        Checks.due("program", x.program(), -2);
        Checks.type(x, "c1 := 1");
        Checks.due("the same once more", x.program(), -2);
    }

    private static void theOneFromNowOn() {
        Checks.about("which is the one from now on");
        RuleRunner x = Checks.with("c1 := 1 else c2 := 2");
        Checks.accepted(x, "if 1 = 2 then c1 := 3");
        Checks.due("run of the second", x.run(0, 0), 0);
        Checks.accepted(x, "c4 := 4");
        Checks.due("run of the third", x.run(0, 0), 1);
        Checks.cells("after the third", x, 0, 0, 0, 0, 4);
        Checks.due("run of the third once more", x.run(0, 0), 1);
        Checks.due("undo", x.undo(), 2);
        Checks.due("run of the third after an undo", x.run(0, 0), 1);
    }

    private static void runsOfTheOneBefore() {
        Checks.about("what was run by the one before can still be undone");
        RuleRunner x = Checks.with("c1 := 11, c2 := 22");
        x.run(0, 0);
        Checks.accepted(x, "c2 := 5, c3 := 6");
        Checks.due("count(0)", x.count(0), 1);
        x.run(0, 0);
        Checks.accepted(x, "c4 := 1");
        Checks.due("count(0): runs of both", x.count(0), 2);
        Checks.due("undo", x.undo(), 1);
        Checks.cells("the second program's run was undone", x, 0, 11, 22);
        Checks.due("undo", x.undo(), 0);
        Checks.cells("the first program's run was undone", x);
        Checks.due("undo of nothing", x.undo(), RuleRunner.NONE);
        Checks.due("run of the third", x.run(0, 0), 1);
        Checks.cells("the third ran", x, 0, 0, 0, 0, 1);
    }

    private static void noProgramAfterAFault() {
        Checks.about("its FAULT if it has one: there is none yet");
        RuleRunner x = new RuleRunner();
        Checks.reads(x, "c1 := 5,", 8);
        Checks.due("run", x.run(0, 0), RuleRunner.NONE);
        Checks.reads(x, "c1 := 5 else c2 := 3 else", 25);
        Checks.due("run", x.run(0, 0), RuleRunner.NONE);
        Checks.due("count(0)", x.count(0), 0);
        Checks.cells("without a program", x);
    }

    private static void theOneBeforeStays() {
        Checks.about("its FAULT if it has one (the one before stays)");
        RuleRunner x = Checks.with("c1 := c1 + 1, c2 := stamp else c3 := 1");
        Checks.due("run", x.run(3, 3), 1);
        Checks.reads(x, "if 1 = 2 then c1 := 77 else c1 := 99 else", 41);
        Checks.due("run of the one before", x.run(3, 4), 1);
        Checks.cells("after a fault", x, 0, 2, 4);
        Checks.due("the empty text", x.program(), 0);
        Checks.due("run of the one before", x.run(3, 5), 1);
        Checks.cells("after another fault", x, 0, 3, 5);
        Checks.due("undo", x.undo(), 2);
        Checks.due("undo", x.undo(), 1);
        Checks.cells("after two undos", x, 0, 1, 3);
    }

    private static void theOneBeforeStaysWhateverTheFault() {
        Checks.about("its FAULT if it has one (the one before stays): for each kind of fault");
        RuleRunner x = Checks.with("if server = 1 then c1 := 7 else c2 := c2 + 1");
        String[] texts = {"c1 := 5 5", "c1 := 5 $", "c1 := 5, x", "c1 := 5, c32 := 1", "c1 := 5, c1 := 2147483648",
            Texts.effects(9), Texts.rules(7, "c1:=5"), Texts.parts(81, "1"), "c1:=5,c2:=" + Texts.brackets(7, "1")};
        int[] faults = {8, 8, 9, 10, 15, 48, 66, 164, 16};
        for (int i = 0; i < texts.length; i++) {
            Checks.reads(x, texts[i], faults[i]);
            Checks.due("run after '" + texts[i] + "'", x.run(0, 0), 2);
            Checks.due("cell(1) after '" + texts[i] + "'", x.cell(1), 0);
            Checks.due("cell(2) after '" + texts[i] + "'", x.cell(2), i + 1);
        }
    }

    private static void programChangesNoCell() {
        Checks.about("The TAPE is read as a PROGRAM: not done");
        RuleRunner x = new RuleRunner();
        x.set(1, 9);
        Checks.accepted(x, "c1 := 1, c2 := 2");
        Checks.cells("before a run", x, 0, 9);
        Checks.due("count(0) before a run", x.count(0), 0);
        Checks.due("set before a run", x.set(1, 8), 0);
    }
}
