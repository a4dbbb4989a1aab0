import java.util.Objects;

/** Counts and prints the answers that are not due; also feeds texts to an engine. */
final class Check {
    private static final int MOST_PRINTED = 40;
    private static String under = "";
    private static int wrong = 0;
    private static int checks = 0;

    private Check() {
    }

    /** Names the sentence that the following checks stand for. */
    static void under(String sentence) {
        under = sentence.isEmpty() ? "" : "[" + sentence + "] ";
    }

    static void due(String what, long got, long want) {
        checks++;
        if (got != want) fail(what + " answered " + got + ", due is " + want);
    }

    static void same(String what, Object got, Object want) {
        checks++;
        if (!Objects.equals(got, want)) fail(what + " is " + got + ", due is " + want);
    }

    static void fail(String text) {
        wrong++;
        if (wrong <= MOST_PRINTED) System.out.println(under + text);
    }

    static boolean allDue() {
        return wrong == 0;
    }

    /** Ends the test: exit code 1 if an answer was wrong. */
    static void end(String test) {
        System.out.println(test + ": " + checks + " checks, " + wrong + " wrong");
        if (wrong != 0) System.exit(1);
    }

    static void feed(AlertEngine engine, String text) {
        for (int i = 0; i < text.length(); i += 5) {
            int n = Math.min(5, text.length() - i);
            engine.feed(n, at(text, i), at(text, i + 1), at(text, i + 2), at(text, i + 3), at(text, i + 4));
        }
    }

    static int add(AlertEngine engine, int kind, String text) {
        feed(engine, text);
        return engine.add(kind);
    }

    private static int at(String text, int i) {
        return i < text.length() ? text.charAt(i) : 0;
    }
}
