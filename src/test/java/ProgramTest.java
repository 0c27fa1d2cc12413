/** Promise 4: which texts are programs, and where the others have their fault. */
public final class ProgramTest {
    private static final int NONE = RuleRunner.NONE;

    public static void main(String[] args) {
        texts();
        tokensWithoutBlanks();
        missing();
        bytesThatBeginNothing();
        wordsAndNumbersThatAreNone();
        cellNumbers();
        misplaced();
        brackets();
        tooManyEffects();
        tooManyRules();
        tooManyParts();
        longTexts();
        bytesThatWereCutOff();
        theOneBeforeStays();
        theNewOneCounts();
        manyPrograms();
        Checks.finish();
    }

    private static void reads(String text, int due) {
        Checks.due("program of '" + text + "'", Checks.program(new RuleRunner(), text), due);
    }

    private static void texts() {
        reads("c0 := 0", NONE);
        reads("  c 31  :=  server  +  stamp  ", NONE);
        reads("if 1 = 1 then c1 := 1", NONE);
        reads("if 1 # 1 and c2 < 3 and (c3) > 4 * 5 then c1 := 1, c2 := 2 else c3 := 3", NONE);
        reads("c1 := 1 else c2 := 2", NONE);
        reads("c1 := 1 else if 1 = 2 then c2 := 2", NONE);
        reads("c1 := c2 - (c3 - (c4 * 5)) * stamp", NONE);
        reads("c1 := 1, c1 := 2", NONE);
    }

    private static void tokensWithoutBlanks() {
        reads("c1:=1,c2:=2", NONE);
        reads("if1=1then c1:=2else c1:=3", NONE);
        reads("if(1)=server*stamp and 3>2then c1:=c2*c3", NONE);
        reads("if c1=1and c2=2then c1:=1", NONE);
        reads("thenc1:=1", 0);
        reads("if 1=1 thenc1:=1", 7);
        reads("ifc1=1 then c1:=1", 0);
        reads("c1:=1 elsec2:=1", 6);
        reads("c1:=serverstamp", 4);
        reads("c1:=1 2", 6);
        reads("c1: =1", 2);
        reads("c 1 0 := 1", 4);
        reads("se rver", 0);
    }

    private static void missing() {
        reads("", 0);
        reads("   ", 3);
        reads("c", 1);
        reads("c1", 2);
        reads("c1  ", 4);
        reads("c1 :=", 5);
        reads("c1 := 1,", 8);
        reads("c1 := 1 +  ", 11);
        reads("c1 := 1 *", 9);
        reads("c1 := (1 ", 9);
        reads("c1 := c", 7);
        reads("c1 := 1 else", 12);
        reads("if", 2);
        reads("if 1", 4);
        reads("if 1 = ", 7);
        reads("if 1 = 1", 8);
        reads("if 1 = 1 and", 12);
        reads("if 1 = 1 then", 13);
    }

    private static void bytesThatBeginNothing() {
        reads("c1 := 1.", 7);
        reads("c1\t:= 1", 2);
        reads("\nc1 := 1", 0);
        reads("c1 := 1\0", 7);
        reads("c1 := 1 /2", 8);
        reads("c1 := 1 \u00a0", 8);
        reads("\u00e3\u00b1", 0);
        reads("c1 := \u00ff", 6);
        reads("c1 : 1", 3);
        reads("c1 :", 3);
        reads("c1 :: 1", 3);
        reads("C1 := 1", 0);
        reads("c_1 := 1", 1);
        reads("c1 := 1;", 7);
        reads("if 1 != 1 then c1 := 1", 5);
        reads("c1 := 1 %", 8);
        reads("c1 := `", 6);
        reads("c1 := {", 6);
        reads("c{1 := 1", 1);
        reads("c`1 := 1", 1);
        reads("c1 := 1/2", 7);
        reads("c1 := /2", 6);
        reads("c1 := 1:2", 7);
        reads("c1 := :", 6);
        // An earlier token that can not stand there comes before a later byte that begins none.
        reads("c1 = $", 3);
        reads("$ c1 = 1", 0);
    }

    private static void wordsAndNumbersThatAreNone() {
        reads("x := 1", 0);
        reads("cc := 1", 0);
        reads("c1 := stamps", 6);
        reads("c1 := serve", 6);
        reads("c1 := 1 elsee c2 := 1", 8);
        reads("iff 1 = 1 then c1 := 1", 0);
        reads("i 1 = 1 then c1 := 1", 0);
        reads("c1 := 1x", 7);
        reads("c1 := 2147483647", NONE);
        reads("c1 := 2147483648", 6);
        reads("c1 := 4294967297", 6);
        reads("c1 := 18446744073709551617", 6);
        reads("c1 := 00000000000000000000002147483647", NONE);
        reads("c1 := 1 + 99999999999999999999999999", 10);
        reads("c99999999999 := 1", 1);
        reads("c1 := " + "9".repeat(394), 6);
    }

    private static void cellNumbers() {
        reads("c31 := c31", NONE);
        reads("c0031 := 1", NONE);
        reads("c32 := 1", 1);
        reads("c  32 := 1", 3);
        reads("c1 := c32", 7);
        reads("c1 := 1 + c 2147483647", 12);
        reads("if c32 = 1 then c1 := 1", 4);
        reads("c := 1", 2);
        reads("c1 := c + 1", 8);
        reads("c-1 := 1", 1);
        reads("c(1) := 1", 1);
        reads("cserver := 1", 0);
        reads("c server := 1", 2);
    }

    private static void misplaced() {
        reads("1 := 1", 0);
        reads("server := 1", 0);
        reads("(c1) := 1", 0);
        reads("then c1 := 1", 0);
        reads("else c1 := 1", 0);
        reads(", c1 := 1", 0);
        reads("c1 = 1", 3);
        reads("c1 := := 1", 6);
        reads("c1 := = 1", 6);
        reads("c1 := -1", 6);
        reads("c1 := +1", 6);
        reads("c1 := 1 + - 1", 10);
        reads("c1 := 1 - * 1", 10);
        reads("c1 := 1 * + 1", 10);
        reads("c1 := 1 ( 2", 8);
        reads("c1 := 1 c2", 8);
        reads("c1 := 1 = 1", 8);
        reads("c1 := 1 := 1", 8);
        reads("c1 := 1 and c2 := 1", 8);
        reads("c1 := 1 then c2 := 1", 8);
        reads("c1 := 1 if 1 = 1 then c2 := 1", 8);
        reads("c1 := 1, if 1 = 1 then c2 := 1", 9);
        reads("c1 := 1,, c2 := 1", 8);
        reads("c1 := if", 6);
        reads("c1 := 1 else else c1 := 2", 13);
        reads("c1 := 1, else c1 := 2", 9);
        reads("if if 1 = 1 then c1 := 1", 3);
        reads("if then c1 := 1", 3);
        reads("if c1 then c1 := 1", 6);
        reads("if 1 = 1 = 1 then c1 := 1", 9);
        reads("if 1 <= 1 then c1 := 1", 6);
        reads("if 1 := 1 then c1 := 1", 5);
        reads("if 1 = 1, 2 = 2 then c1 := 1", 8);
        reads("if 1 = 1 else c1 := 1", 9);
        reads("if 1 = 1 and then c1 := 1", 13);
        reads("if 1 = 1 c1 := 1", 9);
        reads("if 1 = 1 then and", 14);
        reads("if 1 = 1 then if 1 = 1 then c1 := 1", 14);
        reads("if 1 and 2 = 2 then c1 := 1", 5);
        reads("if (1 = 1) then c1 := 1", 6);
        reads("if 1 = (2 and 3) then c1 := 1", 10);
    }

    private static void brackets() {
        reads("c1 := ((((((1))))))", NONE);
        reads("c1 := (((((((1)))))))", 12);
        reads("c1 := ((((((1)))))) + ((((((1)))))) * ((((((1))))))", NONE);
        reads("c1 := 1 + ((((((1 + (2)))))))", 20);
        reads("if ((((((1)))))) = (((((((1))))))) then c1 := 1", 25);
        reads("c1 := ()", 7);
        reads("c1 := (1))", 9);
        reads("c1 := 1)", 7);
        reads("c1 := (1, c2 := 1)", 8);
        reads("c1 := (1 else c2 := 1)", 9);
        reads("c1 := (1 (2))", 9);
        reads("c1 := ((1)", 10);
    }

    private static String effects(int many) {
        StringBuilder text = new StringBuilder("c0:=0");
        for (int i = 1; i < many; i++) {
            text.append(",c").append(i).append(":=").append(i);
        }
        return text.toString();
    }

    private static void tooManyEffects() {
        reads(effects(8), NONE);
        reads(effects(9), 48);
        reads(effects(8) + ",", 48);
        reads(effects(8) + ",)", 48);
        reads(effects(8) + " ,  c", 51);
        reads(effects(8) + " else " + effects(8), NONE);
        reads(effects(8) + " else " + effects(9), 47 + 6 + 48);
        reads("if 1 = 1 then " + effects(8), NONE);
        reads("if 1 = 1 then " + effects(9), 14 + 48);
    }

    private static void tooManyRules() {
        String six = "c1:=1" + " else c1:=1".repeat(5);
        int length = six.length();
        reads(six, NONE);
        reads(six + " else", length + 5);
        reads(six + " else  ", length + 7);
        reads(six + " else  c1:=1", length + 7);
        reads(six + " else if 1=1 then c1:=1", length + 6);
        reads(six + " else ?", length + 6);
        reads(six + " elsx", length + 1);
        String tests = "if 1=1 then c1:=1" + " else if 1=1 then c1:=1".repeat(5);
        reads(tests, NONE);
        reads(tests + " else c1:=1", tests.length() + 6);
    }

    private static void tooManyParts() {
        String eighty = "c1:=1" + "+1".repeat(79);
        int length = eighty.length();
        reads(eighty, NONE);
        reads(eighty + "+", length + 1);
        reads(eighty + "+1", length + 1);
        reads(eighty + "*c99", length + 1);
        reads(eighty + "- stamp", length + 2);
        reads(eighty + "+(1)", length + 2);
        reads(eighty + "+)", length + 1);
        reads(eighty + ",c2:=1", length + 5);
        reads(eighty + ",c2", length + 3);
        reads(eighty + " else c2:=1", length + 10);
        reads(eighty + " else if 1=1 then c2:=1", length + 9);
        reads("c1:=1" + "*(1".repeat(6) + ")".repeat(6) + "+1".repeat(73), NONE);
        reads("c1:=1" + "*(1".repeat(6) + ")".repeat(6) + "+1".repeat(74), 5 + 24 + 147);
        reads("c1:=1" + "*1".repeat(79), NONE);
        reads("c1:=1" + "*1".repeat(80), length + 1);
        reads("if 1=1" + " and 1=1".repeat(38) + " then c1:=c2+c3", NONE);
        reads("if 1=1" + " and 1=1".repeat(38) + " then c1:=c2+c3-server", 6 + 304 + 16);
        reads("if 1=1" + " and 1=1".repeat(39) + " then c1:=c2", 6 + 312 + 10);
        reads("c0:=(1+c1)*server-stamp" + ",c1:=1" + "+1".repeat(75), NONE);
        reads("c0:=(1+c1)*server-stamp" + ",c1:=1" + "+1".repeat(76), 23 + 6 + 151);
    }

    private static void longTexts() {
        reads(" ".repeat(400), 400);
        reads(" ".repeat(393) + "c1 := 1", NONE);
        reads("c1 := 1" + " ".repeat(393), NONE);
        reads("c1 := " + "0".repeat(394), NONE);
        reads("c1 := 1" + "+".repeat(393), 8);
        reads("(".repeat(400), 0);
        reads("c1 := " + "(".repeat(394), 12);
        reads("c1 := 1".concat(" ".repeat(392)) + ",", 400);
        reads("x".repeat(400), 0);
        reads("c".repeat(400), 0);
        reads("c 1 ".repeat(100), 4);
    }

    private static void readsCut(String text, int length, int due) {
        RuleRunner x = new RuleRunner();
        Checks.type(x, text);
        Checks.due("end", x.end(length), length);
        Checks.due("program of '" + text + "' cut to " + length, x.program(), due);
    }

    private static void bytesThatWereCutOff() {
        readsCut("c1 := 1", 4, 3);
        readsCut("c1 := 1 else c1 := 1", 11, 8);
        readsCut("c1 := server", 11, 6);
        readsCut("c12 := 1", 2, 2);
        readsCut("c1 := 2147483648", 15, NONE);
        readsCut("c1 := 1 $", 8, NONE);
        readsCut("c1 := 1 $", 0, 0);
    }

    private static void theOneBeforeStays() {
        RuleRunner x = new RuleRunner();
        Checks.due("a fault", Checks.program(x, "c1 := 5,"), 8);
        Checks.due("run with no program yet", x.run(0, 0), NONE);
        Checks.accepted(x, "c1 := c1 + 1, c2 := stamp else c3 := 1");
        Checks.due("a fault", Checks.program(x, "if 1 = 2 then c1 := 77 else c1 := 99 else"), 41);
        Checks.due("run of the one before", x.run(3, 4), 1);
        Checks.cells("after a fault", x, 0, 1, 4);
        Checks.due("the empty text", x.program(), 0);
        Checks.due("run of the one before", x.run(3, 5), 1);
        Checks.cells("after another fault", x, 0, 2, 5);
    }

    private static void theNewOneCounts() {
        RuleRunner x = Checks.with("c1 := 1 else c2 := 2");
        Checks.accepted(x, "if 1 = 2 then c1 := 3");
        Checks.due("run of the second", x.run(0, 0), 0);
        Checks.accepted(x, "c4 := 4");
        Checks.due("run of the third", x.run(0, 0), 1);
        Checks.cells("after the third", x, 0, 0, 0, 0, 4);
        Checks.due("count(0): runs of both can be undone", x.count(0), 2);
    }
    private static void manyPrograms() {
        RuleRunner x = new RuleRunner();
        String eighty = "c1:=1" + "+1".repeat(79);
        String six = "c1:=1" + " else c1:=1".repeat(5);
        for (int i = 0; i < 5; i++) {
            Checks.accepted(x, eighty);
            Checks.due("a part too much", Checks.program(x, eighty + "+1"), eighty.length() + 1);
            Checks.due("run of 80 parts", x.run(0, 0), 1);
            Checks.due("cell(1)", x.cell(1), 80);
            Checks.accepted(x, effects(8));
            Checks.due("an effect too much", Checks.program(x, effects(9)), 48);
            Checks.accepted(x, six);
            Checks.due("a rule too much", Checks.program(x, six + " else c1:=1"), six.length() + 6);
            Checks.due("a bracket too deep", Checks.program(x, "c1:=(((((((1)))))))"), 10);
            Checks.accepted(x, "c1:=((((((1))))))");
        }
    }
}
