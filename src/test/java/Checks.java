import java.nio.charset.StandardCharsets;

/** What the tests share: comparing answers, and putting a text on the tape. */
final class Checks {
    private static int wrong = 0;
    private static int looked = 0;
    private static String sentence = "";

    private Checks() {
    }

    /** Names the document's words that the answers from here on must keep to. */
    static void about(String words) {
        sentence = words;
    }

    static void due(String call, long got, long want) {
        looked++;
        if (got != want) {
            wrong++;
            System.out.println("[" + sentence + "] " + call + " answered " + got + ", due is " + want);
        }
    }

    static void finish() {
        System.out.println(wrong + " of " + looked + " answers are not as due");
        if (wrong != 0 || looked == 0) {
            System.exit(1);
        }
    }

    /** The tape must be empty, and the text at most 400 bytes long, one byte a character. */
    static void type(RuleRunner x, String text) {
        byte[] bytes = text.getBytes(StandardCharsets.ISO_8859_1);
        int[] words = new int[(bytes.length + 19) / 20 * 5];
        for (int i = 0; i < bytes.length; i++) {
            words[i / 4] |= (bytes[i] & 255) << (24 - i % 4 * 8);
        }
        for (int i = 0; i < words.length; i += 5) {
            int got = x.feed(words[i], words[i + 1], words[i + 2], words[i + 3], words[i + 4]);
            due("feed", got, i * 4 + 20);
        }
        due("end", x.end(bytes.length), bytes.length);
    }

    static int program(RuleRunner x, String text) {
        type(x, text);
        return x.program();
    }

    static void reads(RuleRunner x, String text, int due) {
        due("program of '" + text + "'", program(x, text), due);
    }

    /** What a new object answers to the text: NONE, or its fault. */
    static void reads(String text, int due) {
        reads(new RuleRunner(), text, due);
    }

    static void accepted(RuleRunner x, String text) {
        reads(x, text, RuleRunner.NONE);
    }

    static void accepted(String text) {
        reads(text, RuleRunner.NONE);
    }

    static RuleRunner with(String text) {
        RuleRunner x = new RuleRunner();
        accepted(x, text);
        return x;
    }

    static void cells(String when, RuleRunner x, int... wanted) {
        for (int c = 0; c < 32; c++) {
            due("cell(" + c + ") " + when, x.cell(c), c < wanted.length ? wanted[c] : 0);
        }
    }
}
