import java.io.IOException;
import java.nio.file.Files;
import java.nio.file.Path;
import java.util.List;

/** README.md's example: its calls, in its order, with the answers that it shows. */
public final class ReadmeTest {
    private static List<String> lines;
    private static int next;

    public static void main(String[] args) throws IOException {
        lines = Files.readAllLines(Path.of("README.md"));
        Checks.about("README.md says how to use the class");
        example();
        everyMemberIsTold();
        Checks.due("the command that runs the tests", lines.indexOf(".ci/run") < 0 ? 0 : 1, 1);
        Checks.finish();
    }

    private static void example() {
        RuleRunner x = new RuleRunner();
        shown("x.set(0, 5);", x.set(0, 5));
        shown("x.feed(0x6331203a, 0x3d206330, 0x2a32202b, 0x20737461, 0x6d700000);",
                x.feed(0x6331203a, 0x3d206330, 0x2a32202b, 0x20737461, 0x6d700000));
        shown("x.end(18);", x.end(18));
        shown("x.count(1);", x.count(1));
        shown("x.program();", x.program());
        shown("x.count(1);", x.count(1));
        shown("x.run(1, 7);", x.run(1, 7));
        shown("x.cell(1);", x.cell(1));
        shown("x.count(0);", x.count(0));
        shown("x.set(0, 6);", x.set(0, 6));
        shown("x.undo();", x.undo());
        shown("x.cell(1);", x.cell(1));
        shown("x.undo();", x.undo());
        shown("x.end(1);", x.end(1));
        shown("x.cell(32);", x.cell(32));
        Checks.due("further calls in the example", nextCall().isEmpty() ? 0 : 1, 0);
    }

    /** The next call of the README must be this one, and the answer behind it the one that came. */
    private static void shown(String call, long answer) {
        String line = nextCall();
        boolean same = line.startsWith(call) && line.contains("// " + answer + ": ");
        Checks.due("README's '" + line + "' as " + call + " // " + answer, same ? 1 : 0, 1);
    }

    private static String nextCall() {
        while (next < lines.size()) {
            String line = lines.get(next++);
            if (line.startsWith("x.")) {
                return line;
            }
        }
        return "";
    }

    private static void everyMemberIsTold() {
        String[] rows = {"| `new RuleRunner()` |", "| `feed(a, b, c, d, e)` |", "| `end(n)` |", "| `program()` |",
            "| `run(server, stamp)` |", "| `undo()` |", "| `cell(c)` |", "| `set(c, v)` |", "| `count(what)` |",
            "| `REFUSED` | " + RuleRunner.REFUSED + " |", "| `NONE` | " + RuleRunner.NONE + " |",
            "| `FULL` | " + RuleRunner.FULL + " |"};
        for (String row : rows) {
            boolean told = lines.stream().anyMatch(line -> line.startsWith(row));
            Checks.due("README's row " + row, told ? 1 : 0, 1);
        }
    }
}
