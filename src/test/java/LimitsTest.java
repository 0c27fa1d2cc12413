/** The term PROGRAM: each limit, just within it, at it, and just beyond it; and how tokens are told apart. */
public final class LimitsTest {
    private static final int NONE = RuleRunner.NONE;

    public static void main(String[] args) {
        numbers();
        numbersThatWouldWrap();
        cells();
        everyCellIsItsOwn();
        bracketsDeep();
        bracketsClosedAgain();
        rules();
        effects();
        effectsOfEachRule();
        parts();
        partsOfAnyKind();
        partsOfAllRules();
        bracketsAreNoParts();
        targetsAreNoParts();
        allLimitsAtOnce();
        tokensAsLongAsCanBe();
        blanksWhereOneLikes();
        blanksWithinATokenPartIt();
        noBlanks();
        onlyThirtyTwoIsABlank();
        limitsCountAnewForEachProgram();
        Checks.finish();
    }

    private static void sumIs(String sum, int due) {
        RuleRunner x = Checks.with("c1 := " + sum);
        Checks.due("run of " + sum, x.run(0, 0), 1);
        Checks.due("cell(1) of " + sum, x.cell(1), due);
    }

    private static void numbers() {
        Checks.about("NUMBERS (digits, at most 2^31 - 1)");
        sumIs("0", 0);
        sumIs("2147483646", 2147483646);
        sumIs("2147483647", 2147483647);
        sumIs("00000000000000000000002147483647", 2147483647);
        sumIs("0".repeat(394), 0);
        Checks.reads("c1 := 2147483648", 6);
        Checks.reads("c1 := 00000000000000000000002147483648", 6);
        Checks.reads("c1 := 3000000000", 6);
        Checks.reads("c1 := 1 + 2147483647", NONE);
        Checks.reads("c1 := 1 + 2147483648", 10);
        Checks.reads("c1 := 1 * (2147483647)", NONE);
        Checks.reads("c1 := 1 * (2147483648)", 11);
        Checks.reads("if 2147483647 = 1 then c1 := 1", NONE);
        Checks.reads("if 2147483648 = 1 then c1 := 1", 3);
        Checks.reads("if 1 = 2147483647 then c1 := 1", NONE);
        Checks.reads("if 1 = 2147483648 then c1 := 1", 7);
    }

    private static void numbersThatWouldWrap() {
        Checks.about("NUMBERS (digits, at most 2^31 - 1): also those that wrap to a small one");
        Checks.reads("c1 := 4294967295", 6);
        Checks.reads("c1 := 4294967296", 6);
        Checks.reads("c1 := 4294967297", 6);
        Checks.reads("c1 := 9223372036854775807", 6);
        Checks.reads("c1 := 9223372036854775808", 6);
        Checks.reads("c1 := 18446744073709551616", 6);
        Checks.reads("c1 := 18446744073709551617", 6);
        Checks.reads("c1 := 1" + "0".repeat(64), 6);
        Checks.reads("c1 := 1" + "0".repeat(393), 6);
        Checks.reads("c1 := " + "9".repeat(394), 6);
        Checks.reads("c4294967297 := 1", 1);
    }

    private static void cells() {
        Checks.about("CELL: c NUMBER, 0 to 31");
        Checks.reads("c0 := 1", NONE);
        Checks.reads("c30 := 1", NONE);
        Checks.reads("c31 := 1", NONE);
        Checks.reads("c32 := 1", 1);
        Checks.reads("c033 := 1", 1);
        Checks.reads("c0031 := c 000", NONE);
        Checks.reads("c1 := c0", NONE);
        Checks.reads("c1 := c31", NONE);
        Checks.reads("c1 := c32", 7);
        Checks.reads("c1 := 1 * (2 + c 31)", NONE);
        Checks.reads("c1 := 1 * (2 + c 32)", 17);
        Checks.reads("if c31 = c0 then c1 := 1", NONE);
        Checks.reads("if c32 = c0 then c1 := 1", 4);
        Checks.reads("if c31 = c32 then c1 := 1", 10);
        Checks.reads("c1 := c2147483647", 7);
        Checks.reads("c2147483647 := 1", 1);
        Checks.reads("c-1 := 1", 1);
        Checks.reads("c1 := c-1", 7);
    }

    private static void everyCellIsItsOwn() {
        Checks.about("CELL: c NUMBER, 0 to 31: the number is the cell's");
        for (int c = 0; c < 32; c++) {
            int[] wanted = new int[32];
            wanted[c] = 2 * c - 31;
            RuleRunner x = new RuleRunner();
            x.set(c, c - 31);
            Checks.accepted(x, "c" + c + " := c" + c + " + " + c);
            Checks.due("run", x.run(0, 0), 1);
            Checks.cells("when only cell " + c + " is spoken of", x, wanted);
        }
    }

    private static void bracketsDeep() {
        Checks.about("brackets at most 6 deep");
        sumIs(Texts.brackets(5, "7"), 7);
        sumIs(Texts.brackets(6, "7"), 7);
        Checks.reads("c1 := " + Texts.brackets(7, "7"), 12);
        Checks.reads("c1 := " + Texts.brackets(8, "7"), 12);
        Checks.reads("c1 := " + "(".repeat(394), 12);
        sumIs("1-(1-(1-(1-(1-(1-(9))))))", 9);
        Checks.reads("c1 := 1-(1-(1-(1-(1-(1-((9)))))))", 24);
        String six = Texts.brackets(6, "1"), seven = Texts.brackets(7, "1");
        Checks.reads("if " + six + " = " + six + " then c1 := 1", NONE);
        Checks.reads("if " + seven + " = 1 then c1 := 1", 9);
        Checks.reads("if 1 = " + seven + " then c1 := 1", 13);
        Checks.reads("c1 := 1 else c2 := 1, c3 := " + six, NONE);
        Checks.reads("c1 := 1 else c2 := 1, c3 := " + seven, 34);
    }

    private static void bracketsClosedAgain() {
        Checks.about("brackets at most 6 deep: not how many there are");
        String six = Texts.brackets(6, "1");
        sumIs(six + " + " + six + " * " + six + " - (" + "(1)*".repeat(9) + "2)", 0);
        Checks.reads("c1 := " + six + " + " + Texts.brackets(7, "1"), 6 + 13 + 3 + 6);
        sumIs("(((((1)+(2)))))", 3);
        sumIs("(((((1)+((2))))))", 3);
        Checks.reads("c1 := (((((1)+(((2)))))))", 16);
    }

    private static void rules() {
        Checks.about("at most 6 RULES");
        for (String rule : new String[] {"c1:=1", "if 1=2 then c1:=1"}) {
            int length = rule.length();
            Checks.reads(Texts.rules(1, rule), NONE);
            Checks.reads(Texts.rules(5, rule), NONE);
            Checks.reads(Texts.rules(6, rule), NONE);
            Checks.reads(Texts.rules(7, rule), 6 * (length + 6));
            Checks.reads(Texts.rules(8, rule), 6 * (length + 6));
        }
        RuleRunner x = Checks.with(Texts.rules(5, "if 1=2 then c1:=1") + " else c2:=6");
        Checks.due("run of the sixth", x.run(0, 0), 6);
        Checks.cells("after the sixth", x, 0, 0, 6);
    }

    private static void effects() {
        Checks.about("8 EFFECTS each");
        Checks.reads(Texts.effects(1), NONE);
        Checks.reads(Texts.effects(7), NONE);
        Checks.reads(Texts.effects(9), 48);
        Checks.reads(Texts.effects(10), 48);
        Checks.reads("if 1=1 then " + Texts.effects(8), NONE);
        Checks.reads("if 1=1 then " + Texts.effects(9), 60);
        RuleRunner x = Checks.with(Texts.effects(8));
        Checks.due("run of eight", x.run(0, 0), 1);
        Checks.cells("after eight", x, 0, 1, 2, 3, 4, 5, 6, 7);
    }

    private static void effectsOfEachRule() {
        Checks.about("8 EFFECTS each: of every RULE by itself");
        String eight = Texts.effects(8), nine = Texts.effects(9);
        Checks.reads(Texts.rules(6, eight), NONE);
        Checks.reads(Texts.rules(5, eight) + " else " + nine, 5 * 53 + 48);
        Checks.reads(nine + " else " + eight, 48);
        Checks.reads("c1:=1 else " + nine, 11 + 48);
    }

    private static void parts() {
        Checks.about("80 PARTS");
        Checks.reads(Texts.parts(79, "1"), NONE);
        Checks.reads(Texts.parts(81, "1"), 4 + 160);
        Checks.reads(Texts.parts(82, "1"), 4 + 160);
        RuleRunner x = Checks.with(Texts.parts(80, "1"));
        Checks.due("run of 80 PARTS", x.run(0, 0), 1);
        Checks.due("cell(1)", x.cell(1), 80);
        Checks.reads("c1:=1" + "*1".repeat(79), NONE);
        Checks.reads("c1:=1" + "*1".repeat(80), 4 + 160);
        Checks.reads("c1:=1" + "-1".repeat(79), NONE);
        Checks.reads("c1:=1" + "-1".repeat(80), 4 + 160);
    }

    private static void partsOfAnyKind() {
        Checks.about("80 PARTS: a NUMBER, a CELL, server and stamp are one each");
        Checks.reads(Texts.parts(80, "12"), NONE);
        Checks.reads(Texts.parts(81, "12"), 4 + 240);
        Checks.reads(Texts.parts(80, "c2"), NONE);
        Checks.reads(Texts.parts(81, "c2"), 4 + 240);
        String more = "+1".repeat(40);
        Checks.reads(Texts.parts(40, "server") + more, NONE);
        Checks.reads(Texts.parts(41, "server") + more, 4 + 41 * 7 + 2 * 39);
        Checks.reads(Texts.parts(40, "stamp") + more, NONE);
        Checks.reads(Texts.parts(41, "stamp") + more, 4 + 41 * 6 + 2 * 39);
    }

    private static void partsOfAllRules() {
        Checks.about("80 PARTS: in TESTS and EFFECTS of all RULES together");
        String tests = "if 1=1" + " and 1=1".repeat(38);
        Checks.reads(tests + " then c1:=1", NONE);
        Checks.reads(tests + " then c1:=1+1", NONE);
        Checks.reads(tests + " then c1:=1+1+1", tests.length() + 14);
        Checks.reads(tests + " then c1:=1,c2:=2", NONE);
        Checks.reads(tests + " then c1:=1,c2:=2,c3:=3", tests.length() + 22);
        Checks.reads(tests + " then c1:=1 else c2:=2", NONE);
        Checks.reads(tests + " then c1:=1 else c2:=2 else c3:=3", tests.length() + 32);
        Checks.reads("if 1=1" + " and 1=1".repeat(39) + " then c1:=1", 6 + 39 * 8 + 10);
        String forty = Texts.parts(40, "1");
        Checks.reads(forty + " else " + forty, NONE);
        Checks.reads(forty + " else " + forty + "+1", 2 * forty.length() + 7);
        Checks.reads(Texts.rules(2, "if 1=1 then " + Texts.parts(38, "1")), NONE);
        Checks.reads(Texts.rules(2, "if 1=1 then " + Texts.parts(38, "1")) + "*1", 2 * 91 + 6 + 1);
    }

    private static void bracketsAreNoParts() {
        Checks.about("80 PARTS that are no brackets");
        Checks.reads(Texts.parts(80, "(1)"), NONE);
        Checks.reads(Texts.parts(81, "(1)"), 4 + 80 * 4 + 1);
        Checks.reads("c1:=" + Texts.brackets(6, "1" + "+1".repeat(78)), NONE);
        Checks.reads("c1:=" + Texts.brackets(6, "1" + "+1".repeat(79)), NONE);
        Checks.reads("c1:=" + Texts.brackets(6, "1" + "+1".repeat(80)), 4 + 6 + 160);
        Checks.reads(Texts.parts(80, "1") + "*(", 4 + 159 + 2);
        Checks.reads(Texts.parts(80, "1") + "*((1))", 4 + 159 + 3);
    }

    private static void targetsAreNoParts() {
        Checks.about("80 PARTS: the cell before := is none");
        String eight = Texts.effects(8);
        Checks.reads(eight + "+1".repeat(71), NONE);
        Checks.reads(eight + "+1".repeat(72), NONE);
        Checks.reads(eight + "+1".repeat(73), 47 + 2 * 72 + 1);
        Checks.reads(Texts.parts(80, "1") + ",c2", 4 + 159 + 3);
        Checks.reads(Texts.parts(80, "1") + ",c2:=1", 4 + 159 + 5);
    }

    private static void allLimitsAtOnce() {
        Checks.about("6 RULES, 8 EFFECTS each, 80 PARTS, brackets 6 deep, all in one PROGRAM");
        String rules = Texts.rules(5, Texts.effects(8)) + " else " + Texts.effects(7) + ",c7:=";
        String sum = "1-((((((2" + "-1".repeat(31) + "))))))";
        Checks.reads(rules + sum, NONE);
        Checks.reads(rules + "1+" + sum, rules.length() + 2 + sum.length() - 6 - 1);
        Checks.reads(rules + "(" + sum + ")", rules.length() + 8);
        Checks.reads(rules + sum + ",", rules.length() + sum.length() + 1);
        Checks.reads(rules + sum + ",c8", rules.length() + sum.length() + 1);
        Checks.reads(rules + sum + " else c8", rules.length() + sum.length() + 6);
        String last = Texts.rules(5, "if 1=2 then c1:=1") + " else " + Texts.effects(7) + ",c7:=";
        RuleRunner x = Checks.with(last + "1-((((((2" + "-1".repeat(55) + "))))))");
        Checks.due("run", x.run(0, 0), 6);
        Checks.cells("after it", x, 0, 1, 2, 3, 4, 5, 6, 54);
    }

    private static void tokensAsLongAsCanBe() {
        Checks.about("TOKENS, each as long as can be");
        sumIs("12", 12);
        sumIs("1+23", 24);
        Checks.reads("c12:=3", NONE);
        Checks.reads("c321:=3", 1);
        Checks.reads("c1:==3", 4);
        Checks.reads("cc1:=1", 0);
        Checks.reads("cif1:=1", 0);
        Checks.reads("ifc1=1 then c1:=1", 0);
        Checks.reads("if 1=1 thenc1:=1", 7);
        Checks.reads("if 1=1 andc1=1 then c1:=1", 7);
        Checks.reads("c1:=1 elsec2:=1", 6);
        Checks.reads("c1:=1 elseif 1=1 then c1:=1", 6);
        Checks.reads("c1:=serverstamp", 4);
        Checks.reads("c1:=servers", 4);
        Checks.reads("c1:=stampc", 4);
    }

    private static void blanksWhereOneLikes() {
        Checks.about("with blanks (32) between where one likes");
        Checks.reads(" c1:=1", NONE);
        Checks.reads("c1:=1 ", NONE);
        Checks.reads("c  1  :=  (  c  2  +  3  )  *  server  -  stamp  ,  c  3  :=  1  ", NONE);
        Checks.reads("  if  c  1  =  1  and  2  #  3  then  c  1  :=  1  else  c  2  :=  2  ", NONE);
        Checks.reads(" ".repeat(393) + "c1 := 1", NONE);
        Checks.reads("c1 := 1" + " ".repeat(393), NONE);
        Checks.reads("c1 :=" + " ".repeat(394) + "1", NONE);
        sumIs("  ( 1  +  2 )  *  3", 9);
    }

    private static void blanksWithinATokenPartIt() {
        Checks.about("with blanks (32) between: not within");
        Checks.reads("c1 : = 1", 3);
        Checks.reads("c1 := 1 2", 8);
        Checks.reads("c 1 0 := 1", 4);
        Checks.reads("c1 := ser ver", 6);
        Checks.reads("i f 1 = 1 then c1 := 1", 0);
        Checks.reads("c1 := 1 el se c1 := 1", 8);
    }

    private static void noBlanks() {
        Checks.about("blanks where one likes: or none");
        Checks.reads("c1:=1,c2:=2", NONE);
        Checks.reads("if(1)=server*stamp and 3>2then c1:=c2*c3-c4+(5)", NONE);
        RuleRunner x = Checks.with("if1=2then c1:=1else if2=2and 3=3then c2:=7else c1:=3");
        Checks.due("run", x.run(0, 0), 2);
        Checks.cells("after the second", x, 0, 0, 7);
    }

    private static void onlyThirtyTwoIsABlank() {
        Checks.about("blanks (32)");
        for (int sign = 0; sign < 256; sign++) {
            if (sign < ' ' || sign == 127 || sign == 160) {
                Checks.reads("c1 :=" + (char) sign + "1", 5);
            }
        }
        Checks.reads("c1 := 1", NONE);
    }

    private static void limitsCountAnewForEachProgram() {
        Checks.about("at most 6 RULES, 8 EFFECTS each, 80 PARTS, brackets 6 deep: of one PROGRAM");
        RuleRunner x = new RuleRunner();
        for (int i = 0; i < 5; i++) {
            Checks.accepted(x, Texts.parts(80, "1"));
            Checks.reads(x, Texts.parts(81, "1"), 164);
            Checks.due("run of 80 parts", x.run(0, 0), 1);
            Checks.due("cell(1)", x.cell(1), 80);
            Checks.accepted(x, Texts.effects(8));
            Checks.reads(x, Texts.effects(9), 48);
            Checks.accepted(x, Texts.rules(6, "c1:=1"));
            Checks.reads(x, Texts.rules(7, "c1:=1"), 66);
            Checks.reads(x, "c1:=(((((((1)))))))", 10);
            Checks.accepted(x, "c1:=((((((1))))))");
        }
    }
}
