/** For each promise ordinary inputs, the edges that the document names, and wrong inputs. */
public final class PromiseTests {
    private static final int NONE = -1, BAD = -2, STATE = -3, FULL = -4, NOTHING = -5;
    private static final int RULE = 0, SILENCE = 1, INHIBITION = 2;
    private static final int MAX = Integer.MAX_VALUE, MIN = Integer.MIN_VALUE;

    private PromiseTests() {
    }

    public static void main(String[] args) {
        newObject();
        labels();
        samples();
        drops();
        feeds();
        addedRules();
        wrongRules();
        addedSilences();
        addedInhibitions();
        addLimits();
        removals();
        removedRules();
        parameters();
        passing();
        pendingAndFiring();
        conditions();
        silencedAlerts();
        inhibitedAlerts();
        flappingAlerts();
        rememberedTransitions();
        setsOfAlerts();
        groups();
        groupNextMinute();
        groupMembership();
        grouping();
        keys();
        log();
        forecasts();
        saved();
        snapshots();
        counts();
        Check.end("PromiseTests");
    }

    private static void due(String what, long got, long want) {
        Check.due(what, got, want);
    }

    private static int add(AlertEngine x, int kind, String text) {
        return Check.add(x, kind, text);
    }

    /** An engine with the given rules and nothing else. */
    private static AlertEngine withRules(String... rules) {
        AlertEngine x = new AlertEngine();
        for (int i = 0; i < rules.length; i++) due(rules[i], add(x, RULE, rules[i]), i);
        return x;
    }

    private static void newObject() {
        AlertEngine x = new AlertEngine();
        int[] counts = {0, 0, 0, 0, 0, 0, 0, NOTHING, 0, 0, 5, 60, 30, 4, 1};
        for (int i = 0; i < counts.length; i++) due("new count " + i, x.count(i), counts[i]);
        for (int i = 0; i < 7; i++) due("new alerts " + i, x.alerts(i), 0);
        for (int key = 0; key < 128; key++) due("new group", x.group(key, 0), 0);
        for (int series = 0; series < 12; series++) due("no value at first", x.drop(series), 0);
        for (int series = 0; series < 12; series++) {
            for (int label = 0; label < 3; label++) due("label at first", x.label(series, label, 0), 0);
        }
        due("constants", AlertEngine.NONE * 1000 + AlertEngine.BAD * 100 + AlertEngine.STATE * 10 + AlertEngine.FULL, -1234);
    }

    private static void labels() {
        AlertEngine x = new AlertEngine();
        int[] greatest = {3, 7, 3};
        for (int label = 0; label < 3; label++) {
            due("label set", x.label(11, label, greatest[label]), 0);
            due("label above", x.label(11, label, greatest[label] + 1), BAD);
            due("label below", x.label(11, label, -1), BAD);
            due("label unchanged by errors", x.label(11, label, 0), greatest[label]);
        }
        int[] noSeries = {-1, 12, MAX, MIN};
        for (int series : noSeries) due("no series, bad value", x.label(series, 0, 9), NONE);
        int[] noLabel = {-1, 3, MAX, MIN};
        for (int label : noLabel) due("no label, bad value", x.label(0, label, 9), NONE);
        due("bad value", x.label(0, 0, MAX), BAD);
        due("bad value", x.label(0, 0, MIN), BAD);
    }

    private static void samples() {
        AlertEngine x = withRules("=0for0sev0");
        due("first sample", x.sample(0, MAX), 0);
        due("second sample", x.sample(0, MIN), 1);
        due("condition", x.alerts(6), 0);
        due("third sample", x.sample(0, 0), 1);
        due("condition", x.alerts(6), 1);
        due("last series", x.sample(11, 0), 0);
        due("no series", x.sample(12, 0), NONE);
        due("no series", x.sample(-1, 0), NONE);
        due("no series", x.sample(MIN, 0), NONE);
        due("values", x.count(4), 2);
    }

    private static void drops() {
        AlertEngine x = withRules("=0for0sev0");
        due("drop none", x.drop(0), 0);
        x.sample(0, 0);
        due("drop a value", x.drop(0), 1);
        due("dropped condition", x.alerts(6), 0);
        due("drop again", x.drop(0), 0);
        due("no series", x.drop(12), NONE);
        due("no series", x.drop(-1), NONE);
        due("sample after drop", x.sample(0, 0), 0);
    }

    private static void feeds() {
        AlertEngine x = new AlertEngine();
        due("n 0", x.feed(0, 0, 0, 0, 0, 0), BAD);
        due("n 6", x.feed(6, 0, 0, 0, 0, 0), BAD);
        due("n huge", x.feed(MAX, 0, 0, 0, 0, 0), BAD);
        due("n negative", x.feed(MIN, 0, 0, 0, 0, 0), BAD);
        for (int place = 0; place < 5; place++) {
            int[] bytes = new int[5];
            bytes[place] = 128;
            due("byte 128", x.feed(1, bytes[0], bytes[1], bytes[2], bytes[3], bytes[4]), BAD);
            bytes[place] = -1;
            due("byte -1", x.feed(1, bytes[0], bytes[1], bytes[2], bytes[3], bytes[4]), BAD);
            bytes[place] = 127;
            due("byte 127", x.feed(1, bytes[0], bytes[1], bytes[2], bytes[3], bytes[4]), place + 1);
        }
        for (int length = 10; length <= 55; length += 5) due("feed 5", x.feed(5, 1, 2, 3, 4, 5), length);
        due("feed 4", x.feed(4, 1, 2, 3, 4, 5), 59);
        due("too long", x.feed(2, 1, 2, 3, 4, 5), FULL);
        due("too long and bad", x.feed(2, 1, 2, 3, 4, 500), BAD);
        due("none appended", x.count(9), 59);
        due("last byte", x.feed(1, 1, 2, 3, 4, 5), 60);
        due("full", x.feed(1, 1, 2, 3, 4, 5), FULL);
        due("wrong text", x.add(RULE), -100);
        due("emptied", x.count(9), 0);
    }

    private static void addedRules() {
        String[] texts = {
            ">0for0sev0", "<9999for9999sev3", "=-9999for1sev1", "=-0for0sev2", "t0:>1for1sev1",
            "!t3,!h7,!z3,t0:<-1for10sev3", "z0,z1,z2,z3:=10for100sev0", "h0,h1:>1000for0sev1",
        };
        for (String text : texts) {
            AlertEngine x = new AlertEngine();
            due(text, add(x, RULE, text), 0);
            due("tape emptied", x.count(9), 0);
            due("rules", x.count(1), 1);
        }
    }

    private static void wrongRules() {
        String[] texts = {
            "", "t", "!", "t0", "t0,", "t0:", ">", ">-", ">1", ">1f", ">1fo", ">1for", ">1for1", ">1for1s",
            ">1for1se", ">1for1sev",
        };
        for (String text : texts) due(text, add(new AlertEngine(), RULE, text), -100 - text.length());
        // each of these is wrong at the byte under the bar
        String[][] pairs = {
            {"s0:>1for0sev0", "|"}, {"!s0:>1for0sev0", " |"}, {"!!t0:>1for0sev0", " |"}, {"t4:>1for0sev0", " |"},
            {"h8:>1for0sev0", " |"}, {"z4:>1for0sev0", " |"}, {"x0:>1for0sev0", "|"}, {"t0;>1for0sev0", "  |"},
            {"t0>1for0sev0", "  |"}, {"t00:>1for0sev0", "  |"}, {"t0,:>1for0sev0", "   |"},
            {"t0,s1:>1for0sev0", "   |"}, {"t0,t0,t0,t0,t0:>1for0sev0", "           |"},
            {"t0::>1for0sev0", "   |"}, {":>1for0sev0", "|"}, {"1for0sev0", "|"}, {">>1for0sev0", " |"},
            {">--1for0sev0", "  |"}, {">00for0sev0", "  |"}, {">01for0sev0", "  |"}, {">-00for0sev0", "   |"},
            {">10000for0sev0", "     |"}, {">:for0sev0", " |"}, {">1:for0sev0", "  |"}, {">/for0sev0", " |"},
            {">1 for0sev0", "  |"}, {">1fer0sev0", "   |"}, {">1foo0sev0", "    |"},
            {">1forsev0", "     |"}, {">1for-1sev0", "     |"}, {">1for00sev0", "      |"}, {">1for12345sev0", "         |"},
            {">1for0rev0", "      |"}, {">1for0sav0", "       |"}, {">1for0sew0", "        |"}, {">1for0sev4", "         |"},
            {">1for0sev00", "          |"}, {">1for0sev0 ", "          |"}, {" >1for0sev0", "|"}, {"\0", "|"},
        };
        for (String[] pair : pairs) {
            AlertEngine x = new AlertEngine();
            due(pair[0], add(x, RULE, pair[0]), -99 - pair[1].length());
            due("tape emptied", x.count(9), 0);
            due("rules", x.count(1), 0);
            due("a good one after it", add(x, RULE, ">1for0sev0"), 0);
        }
    }

    private static void addedSilences() {
        String[] good = {"s3@0+0", "!s3@9999+9999", "t0,h7,z3,s0@10+1", "!t1,!h2@1+10"};
        for (String text : good) due(text, add(new AlertEngine(), SILENCE, text), 0);
        String[] shortTexts = {"", "t", "t0", "t0,h7,z3,s0", "t0@", "t0@1", "t0@0+"};
        for (String text : shortTexts) due(text, add(new AlertEngine(), SILENCE, text), -100 - text.length());
        String[][] pairs = {
            {"@0+0", "|"}, {"t0@-1+0", "   |"}, {"t0@00+0", "    |"}, {"t0@12345+0", "       |"}, {"t0@1+00", "      |"},
            {"t0@1+12345", "         |"}, {"t0@1+1x", "      |"}, {"t0>1+1", "  |"}, {"s4@1+1", " |"},
            {"t0,t0,t0,t0,@1+1", "           |"}, {"t0@1-1", "    |"},
        };
        for (String[] pair : pairs) due(pair[0], add(new AlertEngine(), SILENCE, pair[0]), -99 - pair[1].length());
    }

    private static void addedInhibitions() {
        String[] good = {"s3>s0/", "!t0,h1,z2,s3>t0,!h1,z2,!s3/thz", "s3>s0/tt", "s3>s0/zhthzt"};
        for (String text : good) due(text, add(new AlertEngine(), INHIBITION, text), 0);
        String[] shortTexts = {"", "t0", "t0>", "t0>!", "t0>t", "t0>t0", "t0>t0,"};
        for (String text : shortTexts) due(text, add(new AlertEngine(), INHIBITION, text), -100 - text.length());
        String[][] pairs = {
            {">s0/", "|"}, {"s0>/", "   |"}, {"s0/", "  |"}, {"s0>s0>", "     |"}, {"s0>s0/s", "      |"},
            {"s0>s0/t,", "       |"}, {"s0>s0/!", "      |"}, {"s0>s0,s0,s0,s0,s0/", "              |"},
            {"s0,s0,s0,s0,s0>s0/", "           |"}, {"s0:s0/", "  |"},
        };
        for (String[] pair : pairs) due(pair[0], add(new AlertEngine(), INHIBITION, pair[0]), -99 - pair[1].length());
        StringBuilder longest = new StringBuilder("s3>s0/");
        while (longest.length() < 60) longest.append('h');
        due("60 bytes", add(new AlertEngine(), INHIBITION, longest.toString()), 0);
    }

    private static void addLimits() {
        String[] texts = {">1for0sev0", "s0@1+1", "s0>s1/"};
        int[] most = {5, 6, 4};
        AlertEngine x = new AlertEngine();
        for (int kind = 0; kind < 3; kind++) {
            for (int i = 0; i < most[kind]; i++) due("add " + kind, add(x, kind, texts[kind]), i);
            Check.feed(x, texts[kind]);
            due("full " + kind, x.add(kind), FULL);
            due("tape kept", x.count(9), texts[kind].length());
            due("remove", x.remove(kind, 2), most[kind] - 1);
            due("remove", x.remove(kind, 1), most[kind] - 2);
            due("lowest free", x.add(kind), 1);
            due("lowest free", add(x, kind, texts[kind]), 2);
            due("full wrong text", x.add(kind), FULL);
            due("all", x.count(1 + kind), most[kind]);
        }
        Check.feed(x, "abc");
        int[] noKind = {-1, 3, MAX, MIN};
        for (int kind : noKind) due("no kind", x.add(kind), NONE);
        due("tape kept", x.count(9), 3);
    }

    private static void removals() {
        AlertEngine x = withRules(">1for0sev0", ">2for0sev0");
        due("silence", add(x, SILENCE, "s0@1+1"), 0);
        due("inhibition", add(x, INHIBITION, "s0>s1/"), 0);
        int[] noKind = {-1, 3, MAX, MIN};
        for (int kind : noKind) due("no kind", x.remove(kind, 0), NONE);
        int[] most = {5, 6, 4};
        for (int kind = 0; kind < 3; kind++) {
            int[] noNumber = {-1, most[kind] - 1, most[kind], MAX, MIN};
            for (int number : noNumber) due("no number", x.remove(kind, number), NONE);
        }
        due("rule", x.remove(RULE, 0), 1);
        due("rule again", x.remove(RULE, 0), NONE);
        due("silence", x.remove(SILENCE, 0), 0);
        due("inhibition", x.remove(INHIBITION, 0), 0);
    }

    private static void removedRules() {
        AlertEngine x = withRules(">0for0sev0", ">0for5sev1");
        x.parameter(3, 2);
        x.sample(0, 1);
        due("first", x.pass(1), 1);
        x.sample(0, 0);
        due("resolved", x.pass(1), 1);
        x.sample(0, 1);
        due("flapping", x.pass(1), 0);
        due("flapping", x.alert(0, 0, 4), 1);
        due("pending", x.alerts(0), 1L << 12);
        due("remove", x.remove(RULE, 1), 1);
        due("no longer pending", x.alerts(0), 0);
        due("remove", x.remove(RULE, 0), 0);
        due("no longer firing", x.alerts(1), 0);
        due("no rule", x.alert(0, 0, 0), NONE);
        due("new rule", add(x, RULE, ">0for0sev0"), 0);
        due("inactive", x.alert(0, 0, 0), 0);
        due("forgotten", x.alert(0, 0, 6), 0);
        due("sent", x.pass(1), 1);
        due("one transition", x.alert(0, 0, 6), 1);
        due("remove", x.remove(RULE, 0), 0);
        due("still open", x.group(0, 0), 1);
        due("next", x.group(0, 4), 5);
        due("resolved", x.pass(1), 1);
        due("kind", x.sent(0, 2), 3);
        due("minute", x.sent(0, 0), 5);
    }

    private static void parameters() {
        AlertEngine x = new AlertEngine();
        int[] first = {5, 60, 30, 4, 1};
        int[] least = {1, 1, 1, 2, 0};
        int[] most = {60, 999, 999, 20, 7};
        for (int what = 0; what < 5; what++) {
            due("below", x.parameter(what, least[what] - 1), BAD);
            due("above", x.parameter(what, most[what] + 1), BAD);
            due("far below", x.parameter(what, MIN), BAD);
            due("far above", x.parameter(what, MAX), BAD);
            due("least", x.parameter(what, least[what]), first[what]);
            due("most", x.parameter(what, most[what]), least[what]);
            due("count", x.count(10 + what), most[what]);
        }
        int[] noWhat = {-1, 5, MAX, MIN};
        for (int what : noWhat) due("no parameter", x.parameter(what, -1), NONE);
    }

    private static void passing() {
        AlertEngine x = withRules(">0for2sev0");
        int[] badSpans = {0, 101, -1, MAX, MIN};
        for (int n : badSpans) due("bad span", x.pass(n), BAD);
        due("time", x.count(0), 0);
        due("nothing", x.pass(100), 0);
        due("time", x.count(0), 100);
        x.sample(3, 1);
        due("pending at 101, sent at 103", x.pass(2), 0);
        due("sent at 103", x.pass(1), 1);
        due("repeated at 163", x.pass(60), 1);
        x.parameter(0, 1);
        x.parameter(1, 1);
        due("each minute", x.pass(100), 100);
        // more calls than promised, and all the same time must not go above its limit
        for (int minute = 263; minute + 100 <= 99999; minute += 100) x.pass(100);
        due("time", x.count(0), 99963);
        due("too far", x.pass(37), FULL);
        due("too far and bad", x.pass(101), BAD);
        due("time", x.count(0), 99963);
        due("to the end", x.pass(36), 36);
        due("at the end", x.pass(1), FULL);
        due("ahead of the end", x.ahead(1), 1);
    }

    private static void pendingAndFiring() {
        AlertEngine x = withRules(">0for3sev0", ">0for0sev1", ">0for1sev2");
        x.pass(9);
        x.sample(0, 1);
        due("inactive before a step", x.alert(0, 0, 0), 0);
        due("since", x.alert(0, 0, 1), NOTHING);
        x.pass(1);
        due("pending", x.alert(0, 0, 0), 1);
        due("since", x.alert(0, 0, 1), 10);
        due("firing at once", x.alert(1, 0, 0), 2);
        due("since", x.alert(1, 0, 1), 10);
        due("pending", x.alert(2, 0, 0), 1);
        x.pass(1);
        due("firing after 1", x.alert(2, 0, 0), 2);
        due("since", x.alert(2, 0, 1), 11);
        x.pass(1);
        due("still pending", x.alert(0, 0, 0), 1);
        due("no transition yet", x.alert(0, 0, 6), 0);
        x.pass(1);
        due("firing after 3", x.alert(0, 0, 0), 2);
        due("since", x.alert(0, 0, 1), 13);
        due("since stays", x.alert(1, 0, 1), 10);
        due("transition", x.alert(0, 0, 6), 1);
        x.drop(0);
        due("firing until the step", x.alert(0, 0, 0), 2);
        x.pass(1);
        due("inactive", x.alert(0, 0, 0), 0);
        due("transitions", x.alert(0, 0, 6), 2);
        x.sample(0, 1);
        x.pass(2);
        due("pending", x.alert(0, 0, 1), 15);
        x.sample(0, 0);
        x.pass(1);
        due("inactive after pending is no transition", x.alert(0, 0, 6), 2);
        due("inactive", x.alert(0, 0, 0), 0);
        due("since", x.alert(0, 0, 1), NOTHING);
        alertErrors(x);
    }

    private static void alertErrors(AlertEngine x) {
        int[] noRule = {-1, 3, 4, 5, MAX, MIN};
        for (int rule : noRule) due("no rule", x.alert(rule, 0, 0), NONE);
        int[] noSeries = {-1, 12, MAX, MIN};
        for (int series : noSeries) due("no series", x.alert(0, series, 0), NONE);
        int[] noWhat = {-1, 11, MAX, MIN};
        for (int what : noWhat) due("no what", x.alert(0, 0, what), NONE);
    }

    private static void conditions() {
        AlertEngine x = withRules("<-5for0sev0", "=-5for0sev0", ">-5for0sev0", "t1,!h2,z3:=-0for0sev0", "!t0:=7for0sev0");
        x.sample(0, -6);
        x.sample(1, -5);
        x.sample(2, -4);
        x.sample(3, 0);
        x.label(3, 0, 1);
        x.label(3, 2, 3);
        x.sample(4, MIN);
        x.sample(5, MAX);
        x.sample(6, 7);
        x.sample(7, 7);
        x.label(7, 0, 3);
        due("less", x.alerts(6) & 0xFFF, 0b10001);
        due("equal", x.alerts(6) >> 12 & 0xFFF, 0b10);
        due("greater", x.alerts(6) >> 24 & 0xFFF, 0b11101100);
        due("matched and zero", x.alerts(6) >> 36 & 0xFFF, 0b1000);
        due("not team 0", x.alerts(6) >> 48 & 0xFFF, 0b10000000);
        due("what 10", x.alert(3, 3, 10), 1);
        x.label(3, 1, 2);
        due("host ruled out", x.alert(3, 3, 10), 0);
        x.label(3, 1, 1);
        due("another host", x.alert(3, 3, 10), 1);
        x.label(3, 2, 2);
        due("another zone", x.alert(3, 3, 10), 0);
        AlertEngine bounds = withRules("=-9876for0sev0", "=1234for12sev0", "=-0for0sev0");
        bounds.sample(0, -9876);
        bounds.sample(1, 1234);
        bounds.sample(2, 0);
        due("bounds", bounds.alerts(6), 1 | 1L << 13 | 1L << 26);
        bounds.pass(12);
        due("pending for 12", bounds.alert(1, 1, 0), 1);
        bounds.pass(1);
        due("firing", bounds.alert(1, 1, 0), 2);
        eachMatcher();
    }

    /** Each matcher of a rule with each value of its label, and with another label of this value. */
    private static void eachMatcher() {
        String letters = "thz";
        int[] values = {4, 8, 4};
        for (int label = 0; label < 3; label++) {
            for (int digit = 0; digit < values[label]; digit++) {
                AlertEngine x = withRules(letters.charAt(label) + "" + digit + ":>0for0sev0", "!" + letters.charAt(label) + digit + ":>0for0sev0");
                x.sample(7, 1);
                for (int value = 0; value < values[label]; value++) {
                    x.label(7, label, value);
                    due("matched", x.alert(0, 7, 10), value == digit ? 1 : 0);
                    due("not matched", x.alert(1, 7, 10), value == digit ? 0 : 1);
                }
                x.label(7, label, 0);
                x.label(7, (label + 1) % 3, 3);
                x.label(7, (label + 2) % 3, 3);
                due("the other labels", x.alert(0, 7, 10), digit == 0 ? 1 : 0);
            }
        }
    }

    private static void silencedAlerts() {
        AlertEngine x = withRules(">0for0sev2", ">0for100sev1");
        add(x, SILENCE, "s2@3+2");
        add(x, SILENCE, "!s2,h1@4+3");
        add(x, SILENCE, "t0@4+1");
        add(x, SILENCE, "t0@2+0");
        x.sample(0, 1);
        x.sample(1, 1);
        x.label(1, 1, 1);
        // the silenced alerts of rule 0 and rule 1 at the minutes 0 to 7, series 0 and 1
        int[][] due = {{0, 0, 0, 0}, {0, 0, 0, 0}, {0, 0, 0, 0}, {1, 1, 0, 0}, {1, 1, 1, 1}, {0, 0, 0, 1}, {0, 0, 0, 1}, {0, 0, 0, 0}};
        int[] lowestOfLast = {NOTHING, NOTHING, NOTHING, NOTHING, 1, 1, 1, NOTHING};
        int[] inUse = {0, 0, 0, 1, 2, 0, 0, 0};
        for (int minute = 0; minute < due.length; minute++) {
            for (int i = 0; i < 4; i++) due("silenced at " + minute, x.alert(i / 2, i % 2, 2), due[minute][i]);
            due("silence 0 at " + minute, x.alert(0, 1, 8), minute == 3 || minute == 4 ? 0 : NOTHING);
            due("lowest silence at " + minute, x.alert(1, 1, 8), lowestOfLast[minute]);
            due("silences in use at " + minute, x.count(8), inUse[minute]);
            due("firing and silenced at " + minute, x.alerts(2), minute == 3 || minute == 4 ? 3 : 0);
            if (minute > 0) due("active at " + minute, x.alert(0, 0, 5), 1 - due[minute][0]);
            x.pass(1);
        }
        due("opened, resolved at 3, opened at 5", x.count(5), 3);
    }

    private static void inhibitedAlerts() {
        AlertEngine x = withRules(">0for0sev3", ">5for0sev1", ">5for9sev1");
        add(x, INHIBITION, "s3,!t2>s1/hz");
        add(x, INHIBITION, "s1>s1/t");
        x.sample(0, 9);
        x.label(0, 0, 1);
        x.sample(1, 9);
        x.sample(2, 1);
        x.label(2, 1, 3);
        x.pass(1);
        due("firing", x.alerts(1), 0b11_000000000111L);
        due("inhibited", x.alerts(3), 0b11_000000000000L);
        due("by the lowest", x.alert(1, 1, 9), 0);
        due("not by itself", x.alert(1, 0, 9), 0);
        due("whether", x.alert(1, 0, 3), 1);
        due("a cause is not", x.alert(0, 0, 3), 0);
        due("none", x.alert(0, 0, 9), NOTHING);
        due("a pending one is not", x.alert(2, 0, 3), 0);
        due("a pending one", x.alert(2, 0, 9), NOTHING);
        due("an inactive one is not", x.alert(1, 2, 3), 0);
        add(x, SILENCE, "s3@0+99");
        due("a silenced one inhibits", x.alerts(3), 0b11_000000000000L);
        x.label(0, 1, 1);
        due("another host", x.alert(1, 1, 9), 1);
        due("itself of the same host", x.alert(1, 0, 9), 0);
        x.label(1, 2, 1);
        x.label(2, 2, 1);
        x.label(2, 1, 0);
        due("the same host and zone", x.alert(1, 1, 9), 1);
        x.label(1, 0, 2);
        x.label(0, 0, 2);
        due("team 2 does not inhibit, the other of its team does", x.alert(1, 0, 9), 13);
        due("each the other", x.alert(1, 1, 9), 2);
        x.remove(INHIBITION, 1);
        due("no longer", x.alert(1, 0, 9), NOTHING);
        add(x, INHIBITION, "s3>s1/t");
        due("the same team, the lowest", x.alert(1, 0, 9), 0);
        due("the same team", x.alert(1, 1, 3), 1);
        x.label(0, 0, 3);
        due("another team", x.alert(1, 1, 9), 1);
        x.sample(1, -1);
        x.sample(0, -1);
        x.pass(1);
        due("none of them fires", x.alerts(3), 0);
        AlertEngine causeless = withRules(">0for0sev1", ">5for0sev3");
        add(causeless, INHIBITION, "s3>s1/t");
        causeless.sample(0, 1);
        causeless.sample(1, 9);
        causeless.label(1, 0, 1);
        causeless.pass(1);
        due("a target without a cause in its team", causeless.alerts(3), 2);
        due("is active", causeless.alerts(5), 1 | 1L << 13);
        AlertEngine alone = withRules(">0for0sev1");
        add(alone, INHIBITION, "s1>s1/");
        alone.sample(0, 1);
        alone.pass(1);
        due("alone", alone.alerts(3), 0);
        alone.sample(1, 1);
        alone.pass(1);
        due("two", alone.alerts(3), 3);
        due("silent group", alone.group(0, 0), 0);
    }

    /** Lets one minute pass after setting or clearing the condition of the alerts of series 0. */
    private static void toggle(AlertEngine x, boolean on) {
        x.sample(0, on ? 1 : 0);
        x.pass(1);
    }

    private static void flappingAlerts() {
        AlertEngine x = withRules(">0for0sev1");
        for (int i = 0; i < 3; i++) toggle(x, i % 2 == 0);
        due("three transitions", x.alert(0, 0, 6), 3);
        due("below the limit", x.alert(0, 0, 4), 0);
        toggle(x, false);
        due("flapping though inactive", x.alert(0, 0, 4), 1);
        due("no firing one", x.alerts(4), 0);
        toggle(x, true);
        due("flapping and firing", x.alerts(4), 1);
        due("not active", x.alerts(5), 0);
        x.parameter(3, 6);
        due("limit raised", x.alert(0, 0, 4), 0);
        due("active", x.alert(0, 0, 5), 1);
        x.parameter(3, 4);
        x.parameter(2, 4);
        due("window of 4 at 5", x.alert(0, 0, 6), 4);
        x.parameter(2, 3);
        due("window of 3 at 5", x.alert(0, 0, 6), 3);
        x.parameter(2, 30);
        x.pass(26);
        due("transition 1 is out at 31", x.alert(0, 0, 6), 4);
        due("flapping at 31", x.alert(0, 0, 4), 1);
        due("ahead", x.next(10), 32);
        due("transition 2 is out at 32", x.pass(1), 1);
        due("not flapping at 32", x.alert(0, 0, 4), 0);
        x.parameter(2, 999);
        due("transitions are not forgotten", x.alert(0, 0, 6), 5);
    }

    private static void rememberedTransitions() {
        AlertEngine x = withRules(">0for0sev1");
        x.parameter(2, 999);
        for (int i = 1; i <= 25; i++) {
            toggle(x, i % 2 == 1);
            due("remembered after " + i, x.alert(0, 0, 6), Math.min(i, 20));
        }
        x.parameter(3, 20);
        due("flapping at 20", x.alert(0, 0, 4), 1);
        x.parameter(2, 19);
        due("of the latest 20", x.alert(0, 0, 6), 19);
        due("not flapping", x.alert(0, 0, 4), 0);
        x.parameter(2, 20);
        due("the latest 20", x.alert(0, 0, 6), 20);
    }

    private static void setsOfAlerts() {
        AlertEngine x = withRules(">0for0sev0", ">0for1sev0", ">0for2sev0", ">0for3sev0", ">0for4sev0");
        x.sample(11, 1);
        x.sample(0, 1);
        x.pass(3);
        due("pending", x.alerts(0), 1L << 47 | 1L << 59 | 1L << 36 | 1L << 48);
        due("firing", x.alerts(1), 1L << 11 | 1L << 23 | 1L << 35 | 1 | 1L << 12 | 1L << 24);
        due("conditions", x.alerts(6), 0x801801801801801L);
        x.drop(11);
        due("conditions", x.alerts(6), 0x001001001001001L);
        due("active ones", x.alerts(5), x.alerts(1));
        int[] noWhat = {-1, 7, MAX, MIN};
        for (int what : noWhat) due("no what", x.alerts(what), NONE);
    }

    private static void groups() {
        AlertEngine x = withRules(">0for0sev1", ">10for0sev3");
        x.label(0, 0, 2);
        x.sample(0, 1);
        due("not open", x.group(64, 0), 0);
        due("never", x.group(64, 4), NOTHING);
        due("opened", x.pass(1), 1);
        due("minute", x.group(64, 1), 1);
        due("not open", x.group(0, 1), NOTHING);
        x.label(1, 0, 2);
        x.sample(1, 11);
        due("before the interval", x.pass(4), 0);
        due("members", x.group(64, 2), 3);
        due("newcomers", x.group(64, 3), 2);
        due("next", x.group(64, 4), 6);
        due("at the interval", x.pass(1), 1);
        due("kind 1", x.sent(0, 2), 1);
        due("size", x.sent(0, 3), 3);
        due("severity", x.sent(0, 4), 3);
        due("no newcomers", x.group(64, 3), 0);
        due("repeat", x.group(64, 4), 66);
        due("before the repeat", x.pass(59), 0);
        due("at the repeat", x.pass(1), 1);
        due("kind 2", x.sent(0, 2), 2);
        x.sample(1, 0);
        due("a member that leaves is not told", x.pass(1), 0);
        due("its severity", x.count(7), 1);
        x.sample(0, 0);
        due("resolved", x.pass(1), 1);
        due("kind 3", x.sent(0, 2), 3);
        due("key", x.sent(0, 1), 64);
        due("size", x.sent(0, 3), 0);
        due("severity", x.sent(0, 4), NOTHING);
        due("closed", x.group(64, 0), 0);
        due("no minute", x.group(64, 1), NOTHING);
        due("silence after it", x.pass(100), 0);
        x.sample(0, 1);
        due("all are newcomers when closed", x.pass(1), 1);
        int[] noKey = {-1, 128, MAX, MIN};
        for (int key : noKey) due("no key", x.group(key, 0), NONE);
        int[] noWhat = {-1, 5, MAX, MIN};
        for (int what : noWhat) due("no what", x.group(0, what), NONE);
    }

    private static void groupNextMinute() {
        AlertEngine x = withRules(">0for0sev1");
        x.sample(0, 1);
        x.pass(1);
        x.parameter(0, 60);
        x.parameter(1, 10);
        x.sample(1, 1);
        x.pass(1);
        due("the repeat comes first", x.group(0, 4), 11);
        due("at the repeat", x.next(20), 11);
        x.pass(9);
        due("kind 2 before the group interval", x.sent(0, 2), 2);
        due("the newcomer is told", x.group(0, 3), 0);
        x.parameter(0, 10);
        x.sample(2, 1);
        x.pass(10);
        due("kind 1 goes first", x.sent(0, 2), 1);
        x.pass(8);
        x.parameter(1, 3);
        due("overdue", x.group(0, 4), 30);
        due("overdue", x.next(1), 30);
        x.label(3, 0, 1);
        x.sample(3, 1);
        due("not yet firing", x.group(32, 4), NOTHING);
        x.pass(1);
        x.label(3, 0, 2);
        due("open and empty", x.group(32, 4), 31);
        due("not open and not empty", x.group(64, 4), 31);
        due("all of a closed group", x.group(64, 3), 1);
        due("both", x.pass(1), 2);
        due("the later key", x.sent(0, 1), 64);
        due("the earlier key", x.sent(1, 1), 32);
        due("is resolved", x.sent(1, 2), 3);
    }

    private static void groupMembership() {
        AlertEngine x = withRules(">0for0sev1");
        x.sample(0, 1);
        x.sample(1, 1);
        x.pass(1);
        x.sample(1, 0);
        x.pass(1);
        x.sample(1, 1);
        due("left and came back", x.pass(20), 0);
        due("was in it", x.group(0, 3), 0);
        x.sample(1, 0);
        due("before the repeat", x.pass(38), 0);
        due("without it", x.pass(1), 1);
        due("kind", x.sent(0, 2) * 10 + x.sent(0, 3), 21);
        x.sample(1, 1);
        x.pass(4);
        due("is new now", x.group(0, 3), 1);
        due("told", x.pass(1), 1);
        due("kind", x.sent(0, 2), 1);
    }

    private static void grouping() {
        AlertEngine x = withRules(">0for0sev1");
        x.label(0, 0, 3);
        x.label(0, 1, 7);
        x.label(0, 2, 3);
        x.sample(0, 1);
        int[] keys = {0, 96, 28, 124, 3, 99, 31, 127};
        x.pass(1);
        due("open", x.count(6), 1);
        x.parameter(4, 1);
        due("the same grouping", x.count(6), 1);
        due("not sent again", x.pass(1), 0);
        for (int grouping = 7; grouping >= 0; grouping--) {
            x.parameter(4, grouping);
            due("key", x.alert(0, 0, 7), keys[grouping]);
            if (grouping == 1) continue;
            due("never sent", x.count(6), 0);
            due("all are newcomers", x.group(keys[grouping], 3), 1);
            due("opened", x.pass(1), 1);
            due("sent key", x.sent(0, 1), keys[grouping]);
            due("sent kind", x.sent(0, 2), 0);
        }
        AlertEngine y = withRules(">0for0sev1");
        y.sample(11, 1);
        y.label(11, 1, 5);
        y.label(11, 2, 2);
        due("key 0 opened", y.pass(1), 1);
        due("all labels", y.parameter(4, 7), 1);
        due("key of series 11", y.alert(0, 11, 7), 22);
        due("key 0 never sent", y.group(0, 0), 0);
        due("key 0 is not resolved", y.pass(1), 1);
        y.label(11, 0, 1);
        due("key of series 11", y.key(0), 54);
    }

    private static void keys() {
        AlertEngine x = withRules(">0for0sev1", ">0for0sev2");
        due("none", x.key(-1), 0);
        due("none", x.key(0), NONE);
        for (int series = 0; series < 4; series++) {
            x.label(series, 0, 3 - series);
            x.sample(series, 1);
        }
        due("before the step", x.key(-1), 0);
        due("four sent", x.pass(1), 4);
        due("four", x.key(-1), 4);
        for (int i = 0; i < 4; i++) {
            due("ascending", x.key(i), 32 * i);
            due("sent ascending", x.sent(3 - i, 1), 32 * i);
        }
        due("after the last", x.key(4), NONE);
        add(x, SILENCE, "t1@0+999");
        due("three active", x.key(-1), 3);
        due("the second", x.key(1), 64);
        int[] noIndex = {3, -2, 128, MAX, MIN};
        for (int i : noIndex) due("no index", x.key(i), NONE);
    }

    private static void log() {
        AlertEngine x = withRules(">0for0sev2");
        due("none", x.sent(0, 0), NONE);
        x.parameter(1, 1);
        x.sample(0, 1);
        for (int minute = 1; minute <= 35; minute++) {
            due("one", x.pass(1), 1);
            int kept = Math.min(minute, 30);
            due("latest", x.sent(0, 0), minute);
            due("oldest", x.sent(kept - 1, 0), minute - kept + 1);
            due("older", x.sent(kept, 0), NONE);
        }
        due("all", x.count(5), 35);
        due("size", x.sent(3, 3), 1);
        due("severity", x.sent(3, 4), 2);
        int[] noNotification = {-1, 30, MAX, MIN};
        for (int i : noNotification) due("no notification", x.sent(i, 0), NONE);
        int[] noWhat = {-1, 5, MAX, MIN};
        for (int what : noWhat) due("no what", x.sent(0, what), NONE);
    }

    private static void forecasts() {
        AlertEngine x = withRules(">0for3sev1");
        int[] badSpans = {0, 101, -1, MAX, MIN};
        for (int n : badSpans) {
            due("bad ahead", x.ahead(n), BAD);
            due("bad next", x.next(n), BAD);
        }
        due("none", x.ahead(100), 0);
        due("none", x.next(100), NOTHING);
        x.sample(0, 1);
        due("not yet", x.next(3), NOTHING);
        due("at 4", x.next(4), 4);
        due("at 4", x.next(100), 4);
        due("none in 3", x.ahead(3), 0);
        due("one in 4", x.ahead(4), 1);
        due("one in 63", x.ahead(63), 1);
        due("two in 64", x.ahead(64), 2);
        due("nothing changed", x.count(0) + x.count(5) + x.count(6) + x.alerts(0) + x.alerts(1), 0);
        due("pass does it", x.pass(64), 2);
        due("next is after now", x.next(59), NOTHING);
        due("next repeat", x.next(60), 124);
    }

    private static void saved() {
        AlertEngine x = withRules(">0for0sev1", ">0for0sev2");
        add(x, SILENCE, "s1@0+50");
        add(x, SILENCE, "!s1@0+20");
        x.sample(0, 1);
        x.label(1, 0, 1);
        due("no silence", x.saved(2, 0), NONE);
        int[] noSilence = {-1, 6, MAX, MIN};
        for (int silence : noSilence) due("no silence", x.saved(silence, 5), NONE);
        int[] badSpans = {0, 101, -1, MAX, MIN};
        for (int n : badSpans) due("bad span", x.saved(0, n), BAD);
        due("with both", x.ahead(100), 2);
        due("without 0", x.saved(0, 19), 1001);
        due("without 1 all the time", x.saved(1, 100), 1000);
        due("nothing changed", x.count(2) * 10 + x.count(0), 20);
        x.pass(1);
        due("none sent", x.count(5), 0);
        x.remove(SILENCE, 0);
        due("open", x.pass(1), 1);
        add(x, SILENCE, "s1@0+5");
        due("resolved and opened", x.ahead(10), 2);
        due("fewer without it", x.saved(0, 10), 998);
    }

    private static void snapshots() {
        AlertEngine x = new AlertEngine();
        due("none", x.undo(), STATE);
        due("at 0", x.image(), 0);
        fill(x);
        due("at 0", x.undo(), 0);
        for (int what = 0; what < 9; what++) due("as new " + what, x.count(what), what == 7 ? NOTHING : 0);
        due("the tape stays", x.count(9), 3);
        due("no value", x.sample(0, 1), 0);
        due("no label", x.label(0, 0, 0), 0);
        due("no notification", x.sent(0, 0), NONE);
        due("tape emptied", x.add(RULE), -100);
        AlertEngine y = new AlertEngine();
        fill(y);
        y.add(RULE);
        due("image", y.image(), 7);
        long[] before = answers(y);
        y.remove(RULE, 0);
        y.remove(SILENCE, 0);
        y.remove(INHIBITION, 0);
        y.label(0, 0, 3);
        for (int series = 0; series < 12; series++) y.sample(series, 0);
        y.pass(5);
        for (int what = 0; what < 5; what++) y.parameter(what, 3);
        for (int series = 0; series < 12; series++) y.sample(series, 5);
        y.pass(90);
        due("undo", y.undo(), 7);
        same(before, answers(y));
        due("label of series 0", y.label(0, 0, 2), 0);
        for (int i = 0; i < 25; i++) toggle(y, i % 2 == 1);
        y.pass(50);
        due("it stays", y.undo(), 7);
        same(before, answers(y));
        y.pass(3);
        due("in its place", y.image(), 10);
        y.pass(3);
        due("the later one", y.undo(), 10);
    }

    private static void fill(AlertEngine x) {
        add(x, RULE, ">0for0sev1");
        add(x, RULE, "h2:>0for2sev3");
        add(x, SILENCE, "h3@0+99");
        add(x, INHIBITION, "s3>s1/h");
        x.parameter(3, 3);
        for (int series = 0; series < 6; series++) {
            x.label(series, 0, series % 4);
            x.label(series, 1, series);
            x.sample(series, series % 2);
        }
        x.pass(1);
        x.sample(0, 1);
        x.pass(1);
        x.sample(0, 0);
        x.sample(2, 3);
        x.pass(2);
        x.sample(0, 1);
        x.pass(3);
        Check.feed(x, "abc");
    }

    private static long[] answers(AlertEngine x) {
        long[] answers = new long[8 + 15 + 60 * 11 + 128 * 5 + 150];
        int n = 0;
        for (int i = 0; i < 7; i++) answers[n++] = x.alerts(i);
        for (int i = 0; i < 15; i++) answers[n++] = x.count(i);
        for (int i = 0; i < 60 * 11; i++) answers[n++] = x.alert(i / 11 / 12, i / 11 % 12, i % 11);
        for (int i = 0; i < 128 * 5; i++) answers[n++] = x.group(i / 5, i % 5);
        for (int i = 0; i < 150; i++) answers[n++] = x.sent(i / 5, i % 5);
        answers[n] = x.ahead(100);
        return answers;
    }

    private static void same(long[] before, long[] after) {
        for (int i = 0; i < before.length; i++) due("answer " + i, after[i], before[i]);
    }

    private static void counts() {
        AlertEngine x = withRules(">0for0sev1", ">0for0sev0", ">5for0sev3");
        x.sample(0, 1);
        x.sample(1, 9);
        x.label(1, 0, 1);
        x.pass(2);
        Check.feed(x, "abcdefg");
        int[] due = {2, 3, 0, 0, 2, 2, 2, 3, 0, 7, 5, 60, 30, 4, 1};
        for (int what = 0; what < due.length; what++) due("count " + what, x.count(what), due[what]);
        x.drop(1);
        x.pass(1);
        int[] then = {3, 3, 0, 0, 1, 3, 1, 1, 0, 7, 5, 60, 30, 4, 1};
        for (int what = 0; what < then.length; what++) due("then count " + what, x.count(what), then[what]);
        x.remove(RULE, 0);
        due("severity 0", x.count(7), 0);
        int[] noWhat = {-1, 15, MAX, MIN};
        for (int what : noWhat) due("no what", x.count(what), NONE);
    }
}
