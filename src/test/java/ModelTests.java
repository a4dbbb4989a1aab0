/** Runs of 512 calls with made-up arguments, each answered by the program and by the model. */
public final class ModelTests {
    private static final int RUNS = 300, CALLS = 512;
    private static final int[] ODD = {-1, -2, 127, 128, 129, 1000, 99999, Integer.MAX_VALUE, Integer.MIN_VALUE};

    private final int run;
    private final AlertEngine engine = new AlertEngine();
    private final Model model = new Model();
    private final StringBuilder calls = new StringBuilder();
    private final int oddities;
    private long seed;

    private ModelTests(int run) {
        this.run = run;
        this.seed = run * 7919L + 17;
        this.oddities = run % 3 == 0 ? 8 : 60;
    }

    public static void main(String[] args) {
        int runs = args.length > 0 ? Integer.parseInt(args[0]) : RUNS;
        for (int run = 0; run < runs && Check.allDue(); run++) new ModelTests(run).play();
        Check.end("ModelTests");
    }

    /** A number from 0 to n - 1 of a fixed sequence, so that every run of the test is the same. */
    private int pick(int n) {
        seed = seed * 6364136223846793005L + 1442695040888963407L;
        return (int) ((seed >>> 33) % n);
    }

    /** Mostly a number from 0 to n - 1, now and then one beside it or far from it. */
    private int some(int n) {
        if (pick(oddities) != 0) return pick(n);
        return pick(2) == 0 ? n - 1 + pick(3) : ODD[pick(ODD.length)];
    }

    private void play() {
        int left = CALLS;
        while (left > 0 && Check.allDue()) left -= move();
        if (!Check.allDue()) System.out.println("run " + run + ":" + calls);
    }

    /** Makes one call, or the calls that add one text; answers how many. */
    private int move() {
        int move = pick(100);
        if (move < 12) return sample();
        if (move < 16) return label();
        if (move < 18) return drop();
        if (move < 24) return addText();
        if (move < 26) return remove();
        if (move < 31) return parameter();
        if (move < 46) return pass();
        if (move < 50) return snapshot();
        return question();
    }

    private int due(String call, long got, long want) {
        calls.append(' ').append(call);
        Check.due(call, got, want);
        return 1;
    }

    private int sample() {
        int series = some(12);
        int v = pick(20) == 0 ? ODD[pick(ODD.length)] : pick(6) - 2;
        return due("sample(" + series + ", " + v + ")", engine.sample(series, v), model.sample(series, v));
    }

    private int label() {
        int series = some(12);
        int label = some(3);
        int v = pick(3) == 0 ? some(8) : some(2);
        return due("label(" + series + ", " + label + ", " + v + ")", engine.label(series, label, v), model.label(series, label, v));
    }

    private int drop() {
        int series = some(12);
        return due("drop(" + series + ")", engine.drop(series), model.drop(series));
    }

    private int remove() {
        int kind = some(3);
        int number = some(6);
        return due("remove(" + kind + ", " + number + ")", engine.remove(kind, number), model.remove(kind, number));
    }

    private int parameter() {
        int what = some(5);
        int[] usual = {some(8), some(20), some(40), 2 + some(5), some(8)};
        int v = pick(5) == 0 || what < 0 || what > 4 ? some(1000) : usual[what];
        return due("parameter(" + what + ", " + v + ")", engine.parameter(what, v), model.parameter(what, v));
    }

    private int pass() {
        int n = pick(10) == 0 ? some(101) : 1 + some(3);
        return due("pass(" + n + ")", engine.pass(n), model.pass(n));
    }

    private int snapshot() {
        if (pick(2) == 0) return due("image()", engine.image(), model.image());
        return due("undo()", engine.undo(), model.undo());
    }

    private int question() {
        int n = pick(4) == 0 ? some(101) : 1 + pick(12);
        int a = some(128);
        int b = some(11);
        int c = some(5);
        int d = some(12);
        switch (pick(9)) {
            case 0: return due("ahead(" + n + ")", engine.ahead(n), model.ahead(n));
            case 1: return due("next(" + n + ")", engine.next(n), model.next(n));
            case 2: return due("saved(" + c + ", " + n + ")", engine.saved(c, n), model.saved(c, n));
            case 3: return alertsQuestion(some(7));
            case 4: return groupQuestion(pick(2) == 0 ? engine.key(pick(3)) : a, c);
            case 5: return due("key(" + (b - 1) + ")", engine.key(b - 1), model.key(b - 1));
            case 6: return due("sent(" + d + ", " + c + ")", engine.sent(d, c), model.sent(d, c));
            case 7: return countQuestion(some(15));
            default: return due("alert(" + c + ", " + d + ", " + b + ")", engine.alert(c, d, b), model.alert(c, d, b));
        }
    }

    private int alertsQuestion(int what) {
        return due("alerts(" + what + ")", engine.alerts(what), model.alerts(what));
    }

    private int countQuestion(int what) {
        return due("count(" + what + ")", engine.count(what), model.count(what));
    }

    private int groupQuestion(int key, int what) {
        return due("group(" + key + ", " + what + ")", engine.group(key, what), model.group(key, what));
    }

    private int addText() {
        int kind = some(3);
        String text = spoilt(kind == 0 ? rule() : kind == 1 ? silence() : inhibition());
        int made = 0;
        for (int i = 0; i < text.length(); i += 5) {
            int[] bytes = new int[5];
            for (int j = 0; j < 5; j++) bytes[j] = i + j < text.length() ? text.charAt(i + j) : pick(128);
            made += feed(Math.min(5, text.length() - i), bytes);
        }
        if (pick(60) == 0) made += feed(some(6), new int[] {some(128), some(128), some(128), some(128), some(128)});
        return made + due("add(" + kind + ")", engine.add(kind), model.add(kind));
    }

    private int feed(int n, int[] b) {
        String call = "feed(" + n + ", " + b[0] + ", " + b[1] + ", " + b[2] + ", " + b[3] + ", " + b[4] + ")";
        return due(call, engine.feed(n, b[0], b[1], b[2], b[3], b[4]), model.feed(n, b[0], b[1], b[2], b[3], b[4]));
    }

    private String rule() {
        String first = pick(2) == 0 ? matchers("thz") + ":" : "";
        String bound = pick(6) == 0 ? "-" + pick(3) : String.valueOf(pick(20) == 0 ? pick(12000) : pick(4));
        return first + "<>=".charAt(pick(3)) + bound + "for" + (pick(20) == 0 ? pick(12000) : pick(4)) + "sev" + pick(4);
    }

    private String silence() {
        int from = Math.max(0, engine.count(0) + pick(12) - 4);
        return matchers("thzs") + "@" + from + "+" + (pick(20) == 0 ? pick(12000) : pick(15));
    }

    private String inhibition() {
        StringBuilder text = new StringBuilder(matchers("thzs")).append('>').append(matchers("thzs")).append('/');
        for (int i = pick(3); i > 0; i--) text.append("thz".charAt(pick(3)));
        return text.toString();
    }

    private String matchers(String letters) {
        StringBuilder text = new StringBuilder();
        int n = pick(30) == 0 ? 5 : 1 + pick(2) * pick(4);
        for (int i = 0; i < n; i++) {
            if (i > 0) text.append(',');
            if (pick(2) == 0) text.append('!');
            text.append(letters.charAt(pick(letters.length()))).append(pick(4) == 0 ? pick(4) : pick(2));
        }
        return text.toString();
    }

    /** Now and then the text with one byte changed, left out or put in. */
    private String spoilt(String text) {
        if (pick(5) != 0) return text;
        int at = pick(text.length());
        String more = "thzs!,:<>=-@+/0123456789forev ";
        String put = pick(3) == 0 ? "" : String.valueOf(more.charAt(pick(more.length())));
        return text.substring(0, at) + put + text.substring(at + pick(2));
    }
}
