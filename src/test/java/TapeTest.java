/** The term THE TAPE, promises 2 and 3. */
public final class TapeTest {
    private static final int REFUSED = RuleRunner.REFUSED, FULL = RuleRunner.FULL;

    public static void main(String[] args) {
        noneAtFirst();
        atMost400();
        fullFromAnyLength();
        fullChangesNothing();
        readingEmptiesIt();
        otherCallsLeaveIt();
        highestFirst();
        fiveTimesFourInOrder();
        bytesWithTheHighestBit();
        behindWhatIsThere();
        cutToTheFirst();
        refusedIfItHasLess();
        refusedBelowZero();
        refusedChangesNothing();
        Checks.finish();
    }

    private static RuleRunner withBlanks(int feeds) {
        RuleRunner x = new RuleRunner();
        int four = 0x20202020;
        for (int i = 1; i <= feeds; i++) {
            Checks.due("feed " + i, x.feed(four, four, four, four, four), i * 20);
        }
        return x;
    }

    private static int feedNothing(RuleRunner x) {
        return x.feed(0, 0, 0, 0, 0);
    }

    private static void noneAtFirst() {
        Checks.about("THE TAPE has bytes, none at first");
        RuleRunner x = new RuleRunner();
        Checks.due("count(1) of a new object", x.count(1), 0);
        Checks.due("end(1) of a new object", x.end(1), REFUSED);
        Checks.due("end(0) of a new object", x.end(0), 0);
        Checks.due("feed of a new object", feedNothing(x), 20);
    }

    private static void atMost400() {
        Checks.about("at most 400; how many it has; FULL if it would have more than 400");
        RuleRunner x = new RuleRunner();
        for (int i = 1; i <= 20; i++) {
            Checks.due("feed " + i, x.feed(-1, 0, 1, Integer.MIN_VALUE, Integer.MAX_VALUE), i * 20);
            Checks.due("count(1) after feed " + i, x.count(1), i * 20);
        }
        Checks.due("feed 21", feedNothing(x), FULL);
        Checks.due("feed 22", feedNothing(x), FULL);
        Checks.due("count(1) after FULL", x.count(1), 400);
    }

    private static void fullFromAnyLength() {
        Checks.about("FULL if it would have more than 400");
        int[] lengths = {379, 380, 381, 382, 399};
        int[] answers = {399, 400, FULL, FULL, FULL};
        for (int i = 0; i < lengths.length; i++) {
            RuleRunner x = withBlanks(20);
            Checks.due("end", x.end(lengths[i]), lengths[i]);
            Checks.due("feed at " + lengths[i], feedNothing(x), answers[i]);
            Checks.due("count(1)", x.count(1), answers[i] == FULL ? lengths[i] : answers[i]);
        }
    }

    private static void fullChangesNothing() {
        Checks.about("FULL if it would have more than 400: nothing comes to it");
        RuleRunner x = new RuleRunner();
        Checks.type(x, "c1 := 5" + " ".repeat(393));
        Checks.due("feed of c1c1...", x.feed(0x63316331, 0x63316331, 0x63316331, 0x63316331, 0x63316331), FULL);
        Checks.due("count(1)", x.count(1), 400);
        Checks.due("program", x.program(), RuleRunner.NONE);
        Checks.due("run", x.run(0, 0), 1);
        Checks.due("cell(1)", x.cell(1), 5);
        Checks.type(x, "c1 := 6" + " ".repeat(374));
        Checks.due("feed behind 381", x.feed(0x63316331, 0x63316331, 0x63316331, 0x63316331, 0x63316331), FULL);
        Checks.due("program of 381 bytes", x.program(), RuleRunner.NONE);
    }

    private static void readingEmptiesIt() {
        Checks.about("calls that read it empty it");
        RuleRunner x = new RuleRunner();
        Checks.accepted(x, "c1 := 1");
        Checks.due("count(1) after a program", x.count(1), 0);
        Checks.due("end(1) after a program", x.end(1), REFUSED);
        Checks.reads(x, "c1", 2);
        Checks.due("count(1) after a fault at the end", x.count(1), 0);
        Checks.reads(x, "x := 1", 0);
        Checks.due("count(1) after a fault at the start", x.count(1), 0);
        Checks.reads(x, " ".repeat(400), 400);
        Checks.due("count(1) after 400 bytes", x.count(1), 0);
        Checks.due("feed after it", feedNothing(x), 20);
    }

    private static void otherCallsLeaveIt() {
        Checks.about("calls that read it empty it: others do not");
        RuleRunner x = Checks.with("c1 := 1");
        Checks.type(x, "c2 := 2");
        x.run(0, 0);
        x.undo();
        x.undo();
        x.set(3, 3);
        x.set(32, 3);
        x.cell(3);
        x.cell(32);
        x.count(0);
        x.count(2);
        Checks.due("count(1) after other calls", x.count(1), 7);
        Checks.due("count(1) once more", x.count(1), 7);
        Checks.due("program", x.program(), RuleRunner.NONE);
        Checks.due("run", x.run(0, 0), 1);
        Checks.cells("after the run", x, 0, 0, 2, 3);
    }

    private static void highestFirst() {
        Checks.about("Twenty bytes, five times four, the highest of each first");
        RuleRunner x = new RuleRunner();
        // "c12 := 3 * 4 + 5 - 6"
        int fed = x.feed(0x63313220, 0x3a3d2033, 0x202a2034, 0x202b2035, 0x202d2036);
        Checks.due("feed of a program", fed, 20);
        Checks.due("program", x.program(), RuleRunner.NONE);
        Checks.due("run", x.run(0, 0), 1);
        Checks.due("cell(12)", x.cell(12), 11);
    }

    private static void fiveTimesFourInOrder() {
        Checks.about("Twenty bytes, five times four: each has a place of its own");
        for (int place = 0; place < 20; place++) {
            int[] fours = {0x20202020, 0x20202020, 0x20202020, 0x20202020, 0x20202020};
            fours[place / 4] ^= (' ' ^ '?') << (24 - place % 4 * 8);
            RuleRunner x = new RuleRunner();
            Checks.due("feed", x.feed(fours[0], fours[1], fours[2], fours[3], fours[4]), 20);
            Checks.due("program with ? at " + place, x.program(), place);
        }
    }

    private static void bytesWithTheHighestBit() {
        Checks.about("Twenty bytes: one above 127 is none of the others");
        RuleRunner x = new RuleRunner();
        // Blanks, and then 0xa0, 0xff, 0x80: none of them is a blank.
        Checks.due("feed", x.feed(0x202020a0, 0x20202020, 0, 0, 0), 20);
        Checks.due("program with 0xa0", x.program(), 3);
        Checks.due("feed", x.feed(0x20202020, 0xff202020, 0, 0, 0), 20);
        Checks.due("program with 0xff", x.program(), 4);
        Checks.due("feed", x.feed(0x20202020, 0x2020ffff, 0, 0, 0), 20);
        Checks.due("program with two", x.program(), 6);
        Checks.due("feed", x.feed(0x80202020, 0, 0, 0, 0), 20);
        Checks.due("program with 0x80", x.program(), 0);
        // "c1:=1" with the highest bit in the last byte
        Checks.due("feed", x.feed(0x63313a3d, 0xb1202020, 0, 0, 0), 20);
        Checks.due("program with 0xb1", x.program(), 4);
    }

    private static void behindWhatIsThere() {
        Checks.about("Twenty bytes come to the TAPE");
        RuleRunner x = new RuleRunner();
        // "c12 := 3" is left of these, and "123*2" comes behind it.
        x.feed(0x63313220, 0x3a3d2033, 0x202a2034, 0x202b2035, 0x202d2036);
        Checks.due("end(8)", x.end(8), 8);
        Checks.due("feed behind the rest",
                x.feed(0x3132332a, 0x32202020, 0x20202020, 0x20202020, 0x20202020), 28);
        Checks.due("program of both", x.program(), RuleRunner.NONE);
        Checks.due("run of both", x.run(0, 0), 1);
        Checks.due("cell(12) of both", x.cell(12), 6246);
    }

    private static void cutToTheFirst() {
        Checks.about("The TAPE is cut to its first n bytes: n");
        RuleRunner x = new RuleRunner();
        Checks.type(x, "c1 := 1234567890");
        Checks.due("end of all", x.end(16), 16);
        Checks.due("count(1)", x.count(1), 16);
        Checks.due("end of one less", x.end(15), 15);
        Checks.due("end of what was cut off", x.end(16), REFUSED);
        Checks.due("end(9)", x.end(9), 9);
        Checks.due("count(1)", x.count(1), 9);
        Checks.due("program of the first bytes", x.program(), RuleRunner.NONE);
        Checks.due("run", x.run(0, 0), 1);
        Checks.due("cell(1)", x.cell(1), 123);
        Checks.due("feed", feedNothing(x), 20);
        Checks.due("end(1)", x.end(1), 1);
        Checks.due("end(0)", x.end(0), 0);
        Checks.due("count(1) after end(0)", x.count(1), 0);
    }

    private static void refusedIfItHasLess() {
        Checks.about("REFUSED if it has less");
        RuleRunner x = withBlanks(1);
        Checks.due("end(19)", x.end(19), 19);
        Checks.due("end(20) of 19", x.end(20), REFUSED);
        Checks.due("end(19) of 19", x.end(19), 19);
        Checks.due("end(highest)", x.end(Integer.MAX_VALUE), REFUSED);
        x = withBlanks(20);
        Checks.due("end(401) of 400", x.end(401), REFUSED);
        Checks.due("end(400) of 400", x.end(400), 400);
        Checks.due("end(399) of 400", x.end(399), 399);
        Checks.due("end(400) of 399", x.end(400), REFUSED);
    }

    private static void refusedBelowZero() {
        Checks.about("REFUSED if n is below 0");
        RuleRunner x = withBlanks(1);
        Checks.due("end(-1)", x.end(-1), REFUSED);
        Checks.due("end(-20)", x.end(-20), REFUSED);
        Checks.due("end(lowest)", x.end(Integer.MIN_VALUE), REFUSED);
        Checks.due("end(0)", x.end(0), 0);
        Checks.due("end(-1) of none", x.end(-1), REFUSED);
    }

    private static void refusedChangesNothing() {
        Checks.about("REFUSED: the TAPE is not cut");
        RuleRunner x = new RuleRunner();
        Checks.type(x, "c1 := 4");
        Checks.due("end(8)", x.end(8), REFUSED);
        Checks.due("count(1)", x.count(1), 7);
        Checks.due("end(-1)", x.end(-1), REFUSED);
        Checks.due("count(1)", x.count(1), 7);
        Checks.due("program", x.program(), RuleRunner.NONE);
        Checks.due("run", x.run(0, 0), 1);
        Checks.due("cell(1)", x.cell(1), 4);
    }
}
