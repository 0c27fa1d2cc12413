/** The term THE FAULT: one method for each way to have one. */
public final class FaultTest {
    public static void main(String[] args) {
        tokensThatCanNotBeginARule();
        tokensThatCanNotStandInAnEffect();
        tokensThatCanNotStandInATest();
        tokensThatCanNotStandInBrackets();
        tooMuchOrOutOfRange();
        aRuleTooMuch();
        anEffectTooMuch();
        aPartTooMuch();
        everyByteThatBeginsNone();
        bytesNextToTheOnesThatBegin();
        aColonAlone();
        wordsThatAreNone();
        numbersThatAreNone();
        somethingMissing();
        missingBehindBlanks();
        anEmptyTape();
        theFirstOfSeveral();
        placesUpToTheLast();
        bytesThatWereCutOff();
        Checks.finish();
    }

    private static void tokensThatCanNotBeginARule() {
        Checks.about("the first token that can not stand there: a RULE's first");
        for (String token : new String[] {"then", "else", "and", "server", "stamp", "0", "31", "=", "#", "<", ">",
            "+", "-", "*", ":=", ",", "(", ")"}) {
            Checks.reads(token, 0);
            Checks.reads("  " + token + " c1 := 1", 2);
            Checks.reads("c1 := 1 else " + token + " c1 := 1", 13);
        }
    }

    private static void tokensThatCanNotStandInAnEffect() {
        Checks.about("the first token that can not stand there: in an EFFECT");
        Checks.reads("c := 1", 2);
        Checks.reads("c(1) := 1", 1);
        Checks.reads("c c := 1", 2);
        Checks.reads("c server := 1", 2);
        Checks.reads("c1 = 1", 3);
        Checks.reads("c1 + 1 := 1", 3);
        Checks.reads("c1, c2 := 1", 2);
        Checks.reads("c1 := := 1", 6);
        Checks.reads("c1 := = 1", 6);
        Checks.reads("c1 := -1", 6);
        Checks.reads("c1 := +1", 6);
        Checks.reads("c1 := *", 6);
        Checks.reads("c1 := if", 6);
        Checks.reads("c1 := , c2 := 1", 6);
        Checks.reads("c1 := else c2 := 1", 6);
        Checks.reads("c1 := c + 1", 8);
        Checks.reads("c1 := 1 + - 1", 10);
        Checks.reads("c1 := 1 - * 1", 10);
        Checks.reads("c1 := 1 * + 1", 10);
        Checks.reads("c1 := 1 + , c2 := 1", 10);
        Checks.reads("c1 := 1 ( 2", 8);
        Checks.reads("c1 := 1 c2", 8);
        Checks.reads("c1 := 1 server", 8);
        Checks.reads("c1 := 1 = 1", 8);
        Checks.reads("c1 := 1 := 1", 8);
        Checks.reads("c1 := 1 and c2 := 1", 8);
        Checks.reads("c1 := 1 then c2 := 1", 8);
        Checks.reads("c1 := 1 if 1 = 1 then c2 := 1", 8);
        Checks.reads("c1 := 1,, c2 := 1", 8);
        Checks.reads("c1 := 1, if 1 = 1 then c2 := 1", 9);
        Checks.reads("c1 := 1, else c1 := 2", 9);
        Checks.reads("c1 := 1, 2", 9);
        Checks.reads("c1 := 1 else else c1 := 2", 13);
    }

    private static void tokensThatCanNotStandInATest() {
        Checks.about("the first token that can not stand there: in a TEST");
        Checks.reads("if if 1 = 1 then c1 := 1", 3);
        Checks.reads("if then c1 := 1", 3);
        Checks.reads("if = 1 then c1 := 1", 3);
        Checks.reads("if c1 then c1 := 1", 6);
        Checks.reads("if 1 := 1 then c1 := 1", 5);
        Checks.reads("if 1 and 2 = 2 then c1 := 1", 5);
        Checks.reads("if 1 = then c1 := 1", 7);
        Checks.reads("if 1 <= 1 then c1 := 1", 6);
        Checks.reads("if 1 <> 1 then c1 := 1", 6);
        Checks.reads("if 1 = 1 = 1 then c1 := 1", 9);
        Checks.reads("if 1 = 1, 2 = 2 then c1 := 1", 8);
        Checks.reads("if 1 = 1 else c1 := 1", 9);
        Checks.reads("if 1 = 1 c1 := 1", 9);
        Checks.reads("if 1 = 1 and then c1 := 1", 13);
        Checks.reads("if 1 = 1 and and 1 = 1 then c1 := 1", 13);
        Checks.reads("if 1 = 1 then and", 14);
        Checks.reads("if 1 = 1 then then c1 := 1", 14);
        Checks.reads("if 1 = 1 then else c1 := 1", 14);
        Checks.reads("if 1 = 1 then if 1 = 1 then c1 := 1", 14);
        Checks.reads("if 1 = 1 then c1 = 1", 17);
        Checks.reads("if c c1 := 1", 5);
        Checks.reads("if 1 c1 := 1", 5);
        Checks.reads("if 1 = c c1 := 1", 9);
        Checks.reads("if 1 = 1 and c c1 := 1", 15);
        Checks.reads("if c1 := 1", 6);
    }

    private static void tokensThatCanNotStandInBrackets() {
        Checks.about("the first token that can not stand there: in brackets, or a bracket");
        Checks.reads("(c1) := 1", 0);
        Checks.reads("c1 := ()", 7);
        Checks.reads("c1 := 1)", 7);
        Checks.reads("c1 := (1))", 9);
        Checks.reads("c1 := (1, c2 := 1)", 8);
        Checks.reads("c1 := (1 else c2 := 1)", 9);
        Checks.reads("c1 := (1 (2))", 9);
        Checks.reads("c1 := (1)(2)", 9);
        Checks.reads("c1 := (1 +)", 10);
        Checks.reads("c1 := (- 1)", 7);
        Checks.reads("if (1 = 1) then c1 := 1", 6);
        Checks.reads("if 1 = (2 and 3) then c1 := 1", 10);
        Checks.reads("if (1) then c1 := 1", 7);
        Checks.reads("if 1 = 1) then c1 := 1", 8);
    }

    private static void tooMuchOrOutOfRange() {
        Checks.about("for one that is too much or out of range its own");
        Checks.reads("c1 :=  ( ( ( ( ( ( ( 1", 19);
        Checks.reads("c  32 := 1", 3);
        Checks.reads("c1 := c  32 + 1", 9);
        Checks.reads("if 1 < c  99 then c1 := 1", 10);
        Checks.reads("c1 := 1 +  2147483648 * 3", 11);
        Checks.reads("c  2147483648 := 1", 3);
    }

    private static void aRuleTooMuch() {
        Checks.about("of a RULE too much that is its first one");
        String six = Texts.rules(6, "c1:=1");
        int length = six.length();
        Checks.reads(six + " else", length + 5);
        Checks.reads(six + " else  ", length + 7);
        Checks.reads(six + " else  c 1 := 1", length + 7);
        Checks.reads(six + " else  if 1 = 1 then c1 := 1", length + 7);
        Checks.reads(six + " else c99 := 1", length + 6);
        Checks.reads(six + " else if", length + 6);
        Checks.reads(six + " else )", length + 6);
        Checks.reads(six + " else ?", length + 6);
        Checks.reads(six + " elsx", length + 1);
        Checks.reads(Texts.rules(6, "if 1=1 then c1:=1") + " else c2:=1", 6 * 23);
    }

    private static void anEffectTooMuch() {
        Checks.about("of an EFFECT too much that is its first one");
        String eight = Texts.effects(8);
        Checks.reads(eight + ",", 48);
        Checks.reads(eight + ",  ", 50);
        Checks.reads(eight + " ,  c 9 := 1", 51);
        Checks.reads(eight + ",c99:=1", 48);
        Checks.reads(eight + ",c", 48);
        Checks.reads(eight + ",)", 48);
        Checks.reads(eight + ",?", 48);
        Checks.reads(eight + ",else c1:=1", 48);
    }

    private static void aPartTooMuch() {
        Checks.about("of a PART too much that is its first one");
        String eighty = Texts.parts(80, "1");
        int length = eighty.length();
        Checks.reads(eighty + "+", length + 1);
        Checks.reads(eighty + "+  ", length + 3);
        Checks.reads(eighty + "*  c 3", length + 3);
        Checks.reads(eighty + "*c99", length + 1);
        Checks.reads(eighty + "*c", length + 1);
        Checks.reads(eighty + "- stamp", length + 2);
        Checks.reads(eighty + "- server", length + 2);
        Checks.reads(eighty + "+12", length + 1);
        Checks.reads(eighty + "+(c3)", length + 2);
        Checks.reads(eighty + "+)", length + 1);
        Checks.reads(eighty + "+?", length + 1);
        Checks.reads(eighty + "+,c2:=1", length + 1);
        Checks.reads(eighty + ",c2:=", length + 5);
        Checks.reads(eighty + ",c2:=,c3:=1", length + 5);
        Checks.reads(eighty + ",c2:= else c3:=1", length + 6);
        Checks.reads(eighty + " else if c2:=1", length + 9);
        Checks.reads(eighty + " else if 1=1 then c2:=1", length + 9);
        Checks.reads(eighty + " else c2:=c3", length + 10);
    }

    private static void everyByteThatBeginsNone() {
        Checks.about("the first byte that begins none");
        // The space begins none either, but stands between tokens; a letter begins a word.
        String known = " =#<>+-*,():0123456789";
        for (int b = 0; b < 256; b++) {
            boolean letter = b >= 'a' && b <= 'z';
            if (!letter && known.indexOf(b) < 0) {
                Checks.reads("" + (char) b, 0);
                Checks.reads(" " + (char) b + "c1 := 1", 1);
                Checks.reads("c1 := 1" + (char) b, 7);
                Checks.reads("c1 := 1 + " + (char) b, 10);
            }
        }
    }

    private static void bytesNextToTheOnesThatBegin() {
        Checks.about("the first byte that begins none: just below and above digits and letters");
        Checks.reads("c1 := 1/2", 7);
        Checks.reads("c1 := /2", 6);
        Checks.reads("c1 := 1:2", 7);
        Checks.reads("c1 := :", 6);
        Checks.reads("c`1 := 1", 1);
        Checks.reads("c{1 := 1", 1);
        Checks.reads("c1 := server{", 12);
        Checks.reads("c1 := 1 !", 8);
        Checks.reads("c1\u00a0:= 1", 2);
        Checks.reads("\u00e3\u00b1", 0);
    }

    private static void aColonAlone() {
        Checks.about("the first byte that begins none: ':' without '='");
        Checks.reads("c1 :", 3);
        Checks.reads("c1 : 1", 3);
        Checks.reads("c1 : = 1", 3);
        Checks.reads("c1 :: 1", 3);
        Checks.reads("c1 ::= 1", 3);
        Checks.reads("c1 :=: 1", 5);
        Checks.reads(":", 0);
        Checks.reads("c1 := 1" + " ".repeat(392) + ":", 399);
    }

    private static void wordsThatAreNone() {
        Checks.about("also of a word that is none");
        for (char letter = 'a'; letter <= 'z'; letter++) {
            Checks.reads("" + letter, letter == 'c' ? 1 : 0);
            Checks.reads("c1 := " + letter + letter, 6);
            Checks.reads("c" + letter + "1 := 1", 0);
            Checks.reads("c1 := server" + letter, 6);
        }
        for (String word : new String[] {"if", "then", "else", "and", "server", "stamp", "c"}) {
            Checks.reads(" " + word + "x", 1);
            Checks.reads(" x" + word, 1);
            Checks.reads("c1 := 1 + " + word + word, 10);
        }
        Checks.reads("c1 := serve", 6);
        Checks.reads("c1 := stam", 6);
        Checks.reads("c1 := stbmp", 6);
        Checks.reads("i 1 = 1 then c1 := 1", 0);
        Checks.reads("if 1 = 1 an 1 = 1 then c1 := 1", 9);
        Checks.reads("if 1 = 1 the c1 := 1", 9);
        Checks.reads("c1 := 1 els c2 := 1", 8);
        Checks.reads("c1 := 1x", 7);
        Checks.reads("x".repeat(400), 0);
        Checks.reads("c".repeat(400), 0);
    }

    private static void numbersThatAreNone() {
        Checks.about("also of a number that is none");
        Checks.reads("2147483648", 0);
        Checks.reads("c1 := 99999999999", 6);
        Checks.reads("c1 := 1 - 99999999999999999999999999", 10);
        Checks.reads("c99999999999 := 1", 1);
        Checks.reads("if 1 # 99999999999 then c1 := 1", 7);
    }

    private static void somethingMissing() {
        Checks.about("the length if something is missing");
        for (String text : new String[] {"c", "c1", "c1 :=", "c1 := c", "c1 := (", "c1 := (1", "c1 := ((1)", "c1 := 1,",
            "c1 := 1, c", "c1 := 1, c2", "c1 := 1, c2 :=", "c1 := 1 +", "c1 := 1 -", "c1 := 1 *", "c1 := 1 else", "if",
            "if c", "if 1", "if 1 +", "if (1", "if 1 =", "if 1 <", "if 1 = 1", "if 1 = 1 and", "if 1 = 1 and 2",
            "if 1 = 1 and 2 #", "if 1 = 1 and 2 # 2", "if 1 = 1 then", "if 1 = 1 then c", "if 1 = 1 then c1",
            "c1 := 1 else if", "c1 := 1 else c", "c1 := 1 else if 1 = 1 then"}) {
            Checks.reads(text, text.length());
        }
    }

    private static void missingBehindBlanks() {
        Checks.about("the length if something is missing: blanks are of it");
        Checks.reads(" ", 1);
        Checks.reads("   ", 3);
        Checks.reads("c1  ", 4);
        Checks.reads("c1 := 1 +  ", 11);
        Checks.reads("c1 := 1 else    ", 16);
        Checks.reads(" ".repeat(399), 399);
        Checks.reads(" ".repeat(400), 400);
        Checks.reads("c1 := 1," + " ".repeat(392), 400);
        Checks.reads("c1 := 1" + " ".repeat(392) + ",", 400);
    }

    private static void anEmptyTape() {
        Checks.about("the length if something is missing: of an empty TAPE");
        Checks.due("program of a new object", new RuleRunner().program(), 0);
        RuleRunner x = new RuleRunner();
        Checks.type(x, "c1 := 1");
        Checks.due("end(0)", x.end(0), 0);
        Checks.due("program of a tape cut to nothing", x.program(), 0);
        Checks.accepted(x, "c1 := 1");
        Checks.due("program of a tape that was read", x.program(), 0);
        Checks.due("program once more", x.program(), 0);
        Checks.due("run of the one before", x.run(0, 0), 1);
    }

    private static void theFirstOfSeveral() {
        Checks.about("the first token that can not stand there, or the first byte that begins none");
        Checks.reads("c1 = $", 3);
        Checks.reads("$ c1 = 1", 0);
        Checks.reads("c1 := $ = 1", 6);
        Checks.reads("c1 := 1 1 x", 8);
        Checks.reads("c1 := x 1 1", 6);
        Checks.reads("c1 := ) 2147483648", 6);
        Checks.reads("c1 := 2147483648 )", 6);
        Checks.reads("c32 := c32", 1);
        Checks.reads("c1 := c32, c32 := 1", 7);
        Checks.reads("c1 := (((((((2147483648", 12);
        Checks.reads("c1 := (((((( ?(((", 13);
        Checks.reads("if 1 then x", 5);
        Checks.reads("c1 := 1 + * ", 10);
        Checks.reads("c 1 ".repeat(100), 4);
    }

    private static void placesUpToTheLast() {
        Checks.about("THE FAULT: the place of: the last byte of a full TAPE");
        Checks.reads("c1 := 1" + " ".repeat(392) + "x", 399);
        Checks.reads("c1 := 1" + " ".repeat(392) + "?", 399);
        Checks.reads("c1 := 1" + " ".repeat(392) + ")", 399);
        Checks.reads("c1 := 1 -" + " ".repeat(390) + "c", 400);
        Checks.reads("c1 := 1 -" + " ".repeat(390) + "1", RuleRunner.NONE);
        Checks.reads("c1 := 1" + "+".repeat(393), 8);
        Checks.reads("(".repeat(400), 0);
    }

    private static void readsCut(String text, int length, int due) {
        RuleRunner x = new RuleRunner();
        Checks.type(x, text);
        Checks.due("end", x.end(length), length);
        Checks.due("program of '" + text + "' cut to " + length, x.program(), due);
    }

    private static void bytesThatWereCutOff() {
        Checks.about("THE FAULT: of what is on the TAPE, not of what was cut off");
        readsCut("c1 := 1", 4, 3);
        readsCut("c1 := 1", 5, 5);
        readsCut("c1 := 1 else c1 := 1", 11, 8);
        readsCut("c1 := 1 else c1 := 1", 12, 12);
        readsCut("c1 := server", 11, 6);
        readsCut("c12 := 1", 2, 2);
        readsCut("c1 := 2147483648", 15, RuleRunner.NONE);
        readsCut("c1 := 1 $", 8, RuleRunner.NONE);
        readsCut("c1 := 1 $", 0, 0);
    }
}
