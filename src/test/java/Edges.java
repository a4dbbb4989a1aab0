import java.io.IOException;
import java.io.UncheckedIOException;
import java.nio.file.Files;
import java.nio.file.Path;

/** What the tests of boundary cases share: each stands under a sentence that it quotes from the document. */
abstract class Edges {
    static final int NONE = -1, BAD = -2, STATE = -3, FULL = -4, NOTHING = -5;
    static final int RULE = 0, SILENCE = 1, INHIBITION = 2;
    static final int MAX = Integer.MAX_VALUE, MIN = Integer.MIN_VALUE;
    static final int GROUP_INTERVAL = 0, REPEAT_INTERVAL = 1, WINDOW = 2, FLAPS = 3, GROUPING = 4;

    /** The part of the document ahead of its promises. */
    static final int DESCRIPTION = 0;

    private static final Path DOCUMENT = Path.of("../shared/DOC.md");
    private static String[] parts = null;

    /** Runs a test, after looking up its sentence in the description or in a promise. */
    static void holds(int promise, String sentence, Runnable test) {
        Check.under(promise == DESCRIPTION ? sentence : "promise " + promise + ": " + sentence);
        Check.same("the quotation", part(promise).contains(sentence), true);
        test.run();
        Check.under("");
    }

    private static String part(int promise) {
        if (parts == null) parts = read().replaceAll("\\s+", " ").split("## Promise ");
        return promise < parts.length ? parts[promise] : "";
    }

    private static String read() {
        try {
            return Files.readString(DOCUMENT);
        } catch (IOException e) {
            throw new UncheckedIOException(e);
        }
    }

    static void due(String what, long got, long want) {
        Check.due(what, got, want);
    }

    static int add(AlertEngine x, int kind, String text) {
        return Check.add(x, kind, text);
    }

    /** An engine with the given rules and nothing else. */
    static AlertEngine withRules(String... rules) {
        AlertEngine x = new AlertEngine();
        for (int i = 0; i < rules.length; i++) due(rules[i], add(x, RULE, rules[i]), i);
        return x;
    }

    /** Gives series 0 a value and lets one minute pass. */
    static int step(AlertEngine x, int value) {
        x.sample(0, value);
        return x.pass(1);
    }

    /** Lets minutes pass until the given one; answers the number of notifications. */
    static int passTo(AlertEngine x, int minute) {
        int sent = 0;
        for (int left = minute - x.count(0); left > 0; left -= 100) sent += x.pass(Math.min(100, left));
        due("time", x.count(0), minute);
        return sent;
    }

    static int[] ends(int first, int last) {
        return new int[] {first, last};
    }

    /** The numbers outside a range: those beside it, and the far ones. */
    static int[] outside(int first, int last) {
        return new int[] {first - 1, last + 1, first - 1000, last + 1000, MAX, MIN};
    }
}
