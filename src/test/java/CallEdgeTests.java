/** The boundary cases of the calls' arguments, and which error goes first. */
public final class CallEdgeTests extends Edges {
    private static final int[] LABEL_MOST = {3, 7, 3};
    private static final int[] INITIALLY = {5, 60, 30, 4, 1};
    private static final int[] LEAST = {1, 1, 1, 2, 0};
    private static final int[] MOST = {60, 999, 999, 20, 7};

    private CallEdgeTests() {
    }

    public static void main(String[] args) {
        holds(1, "Creates an engine without rules.", CallEdgeTests::newEngine);
        holds(DESCRIPTION, "There are 12 series, numbered from 0.", CallEdgeTests::twelveSeries);
        holds(DESCRIPTION, "Each has three labels: the team, 0 to 3, the host, 0 to 7, and the zone, 0 to 3, all 0 at first.",
            CallEdgeTests::labelsAtFirst);
        holds(DESCRIPTION, "A series has a value, an int, or none, as all at first.", CallEdgeTests::anyInt);
        holds(DESCRIPTION, "public static final int NONE = -1, BAD = -2, STATE = -3, FULL = -4;", CallEdgeTests::constants);
        holds(2, "the series, 0 to 11", CallEdgeTests::labelSeries);
        holds(2, "0 for the team, 1 for the host, 2 for the zone", CallEdgeTests::labelNumbers);
        holds(2, "Returns the previous value; NONE if there is no such series or label; BAD if v is out of range.", CallEdgeTests::labelValues);
        holds(3, "Returns 1 if it had a value before, otherwise 0; NONE if there is no such series.", CallEdgeTests::samples);
        holds(4, "Returns 1 if it had a value, otherwise 0; NONE if there is no such series.", CallEdgeTests::drops);
        holds(5, "the number of bytes, 1 to 5; a is the first one, b the second, and so on", CallEdgeTests::fedNumbers);
        holds(5, "a byte, 0 to 127", CallEdgeTests::fedBytes);
        holds(5, "BAD if n or any of the bytes is out of range, also of those that are not appended", CallEdgeTests::fedButNotAppended);
        holds(5, "FULL if the tape would be longer than 60 bytes, and then none is appended", CallEdgeTests::fullTape);
        holds(7, "Returns how many of this kind remain; NONE if kind is invalid or there is no such one.", CallEdgeTests::removed);
        holds(DESCRIPTION, "0 the group interval, 1 to 60, initially 5; 1 the repeat interval, 1 to 999, initially 60",
            () -> parameterBounds(GROUP_INTERVAL, REPEAT_INTERVAL));
        holds(DESCRIPTION, "2 the window, 1 to 999, initially 30; 3 the limit of flaps, 2 to 20, initially 4; 4 the grouping, 0 to 7.",
            () -> parameterBounds(WINDOW, GROUPING));
        holds(8, "the parameter, 0 to 4", CallEdgeTests::parameterNumbers);
        holds(8, "Returns the previous value; NONE if what is invalid; BAD if v is out of range.", CallEdgeTests::parameterAnswers);
        holds(9, "the number of minutes, 1 to 100", CallEdgeTests::passedMinutes);
        holds(9, "FULL if the time would be above 99999", CallEdgeTests::lastMinute);
        holds(10, "NONE if there is no such rule or series or what is invalid", CallEdgeTests::noAlert);
        holds(11, "Returns the set; NONE if what is invalid.", CallEdgeTests::noSet);
        holds(12, "the key, 0 to 127", CallEdgeTests::groupKeys);
        holds(12, "Returns the property; NONE if key or what is invalid.", CallEdgeTests::noGroup);
        holds(13, "Returns the key or the number; NONE if there is no such index.", CallEdgeTests::noKey);
        holds(14, "Returns the number; NONE if there is no such notification or what is invalid.", CallEdgeTests::noNotification);
        holds(15, "BAD if n is out of range", CallEdgeTests::aheadSpans);
        holds(16, "BAD if n is out of range", CallEdgeTests::nextSpans);
        holds(17, "NONE if there is no such silence; BAD if n is out of range", CallEdgeTests::savedErrors);
        holds(19, "STATE if there is no snapshot", CallEdgeTests::noSnapshot);
        holds(20, "Returns the count; NONE if what is invalid.", CallEdgeTests::noCount);
        holds(20, "0 the present minute; 1, 2, 3 the rules, silences, inhibitions", CallEdgeTests::countedEntries);
        holds(20, "9 the bytes on the tape; 10 + p the parameter p, 0 to 4", CallEdgeTests::countedBytesAndParameters);
        holds(DESCRIPTION, "If several errors apply, the one that is listed first in the @return line is returned.", CallEdgeTests::firstError);
        holds(DESCRIPTION, "The result -5 is returned only if no error applies.", CallEdgeTests::nothingOnlyWithoutError);
        Check.end("CallEdgeTests");
    }

    private static void newEngine() {
        AlertEngine x = new AlertEngine();
        for (int what = 0; what <= 9; what++) due("count " + what, x.count(what), what == 7 ? NOTHING : 0);
        for (int what = 0; what <= 6; what++) due("alerts " + what, x.alerts(what), 0);
        for (int rule = 0; rule < 5; rule++) due("no rule", x.alert(rule, 0, 0), NONE);
        for (int kind = 0; kind < 3; kind++) due("nothing to remove", x.remove(kind, 0), NONE);
        due("no groups", x.key(-1), 0);
        due("nothing happens", x.pass(100), 0);
    }

    private static void constants() {
        due("NONE", AlertEngine.NONE, -1);
        due("BAD", AlertEngine.BAD, -2);
        due("STATE", AlertEngine.STATE, -3);
        due("FULL", AlertEngine.FULL, -4);
    }

    private static void twelveSeries() {
        AlertEngine x = withRules("=0for0sev0");
        for (int series = 0; series < 12; series++) due("sample", x.sample(series, 0), 0);
        due("all", x.alerts(6), 0xFFF);
        due("count", x.count(4), 12);
        for (int series : outside(0, 11)) {
            due("label of " + series, x.label(series, 0, 0), NONE);
            due("sample of " + series, x.sample(series, 0), NONE);
            due("drop of " + series, x.drop(series), NONE);
            due("alert of " + series, x.alert(0, series, 0), NONE);
        }
        due("count", x.count(4), 12);
        for (int series = 0; series < 12; series++) due("alert", x.alert(0, series, 10), 1);
        for (int series = 0; series < 12; series++) due("drop", x.drop(series), 1);
        due("none", x.alerts(6), 0);
    }

    private static void labelsAtFirst() {
        AlertEngine x = new AlertEngine();
        for (int series = 0; series < 12; series++) {
            for (int label = 0; label < 3; label++) due("at first", x.label(series, label, LABEL_MOST[label]), 0);
        }
        for (int series = 0; series < 12; series++) {
            for (int label = 0; label < 3; label++) due("the greatest", x.label(series, label, 0), LABEL_MOST[label]);
        }
        for (int label = 0; label < 3; label++) {
            for (int v = 0; v <= LABEL_MOST[label]; v++) due("each value", x.label(6, label, v), Math.max(0, v - 1));
        }
    }

    private static void anyInt() {
        AlertEngine x = withRules("<-9999for0sev0", ">9999for0sev0", "=0for0sev0", "<9999for0sev0", ">-9999for0sev0");
        due("without values", x.alerts(6), 0);
        x.sample(0, MIN);
        x.sample(1, -10000);
        x.sample(2, -9999);
        x.sample(3, 0);
        x.sample(4, 9999);
        x.sample(5, 10000);
        x.sample(6, MAX);
        due("less than -9999", x.alerts(6) & 0xFFF, 0b0000011);
        due("greater than 9999", x.alerts(6) >> 12 & 0xFFF, 0b1100000);
        due("equal to 0", x.alerts(6) >> 24 & 0xFFF, 0b0001000);
        due("less than 9999", x.alerts(6) >> 36 & 0xFFF, 0b0001111);
        due("greater than -9999", x.alerts(6) >> 48 & 0xFFF, 0b1111000);
    }

    private static void labelSeries() {
        AlertEngine x = new AlertEngine();
        for (int series : ends(0, 11)) due("series " + series, x.label(series, 0, 1), 0);
        for (int series : outside(0, 11)) due("series " + series, x.label(series, 0, 1), NONE);
        for (int series : ends(0, 11)) due("again " + series, x.label(series, 0, 0), 1);
        for (int series = 1; series < 11; series++) due("the others", x.label(series, 0, 0), 0);
    }

    private static void labelNumbers() {
        AlertEngine x = withRules("=0for0sev0");
        x.parameter(GROUPING, 7);
        for (int label : outside(0, 2)) due("label " + label, x.label(5, label, 1), NONE);
        due("no label", x.alert(0, 5, 7), 0);
        x.label(5, 0, 3);
        due("team", x.alert(0, 5, 7), 96);
        x.label(5, 0, 0);
        x.label(5, 1, 7);
        due("host", x.alert(0, 5, 7), 28);
        x.label(5, 1, 0);
        x.label(5, 2, 3);
        due("zone", x.alert(0, 5, 7), 3);
    }

    private static void labelValues() {
        for (int label = 0; label < 3; label++) {
            AlertEngine x = new AlertEngine();
            due("previous", x.label(3, label, 2), 0);
            due("the same", x.label(3, label, 2), 2);
            for (int v : outside(0, LABEL_MOST[label])) due("value " + v, x.label(3, label, v), BAD);
            due("unchanged", x.label(3, label, 0), 2);
        }
    }

    private static void samples() {
        AlertEngine x = new AlertEngine();
        for (int series : ends(0, 11)) {
            due("first", x.sample(series, 0), 0);
            due("the same again", x.sample(series, 0), 1);
            due("another", x.sample(series, MIN), 1);
            x.drop(series);
            due("after a drop", x.sample(series, MAX), 0);
        }
        for (int series : outside(0, 11)) due("series " + series, x.sample(series, 1), NONE);
        due("values", x.count(4), 2);
    }

    private static void drops() {
        AlertEngine x = new AlertEngine();
        for (int series : ends(0, 11)) {
            due("nothing to drop", x.drop(series), 0);
            x.sample(series, 0);
            due("the value 0", x.drop(series), 1);
            due("no more", x.drop(series), 0);
        }
        x.sample(5, 1);
        for (int series : outside(0, 11)) due("series " + series, x.drop(series), NONE);
        due("values", x.count(4), 1);
    }

    /** The first n arguments are appended in their order, and no other one. */
    private static void fedNumbers() {
        for (int n = 1; n <= 5; n++) {
            AlertEngine x = new AlertEngine();
            due("length", x.feed(n, 't', '0', '>', 't', '0'), n);
            Check.feed(x, "t0>t0/".substring(n));
            due("the first " + n + " and the rest", x.add(INHIBITION), 0);
        }
        AlertEngine x = new AlertEngine();
        for (int n : outside(1, 5)) due("n " + n, x.feed(n, 't', '0', '>', 't', '0'), BAD);
        due("tape", x.count(9), 0);
    }

    private static int feedAt(AlertEngine x, int n, int place, int b) {
        int[] bytes = {1, 1, 1, 1, 1};
        bytes[place] = b;
        return x.feed(n, bytes[0], bytes[1], bytes[2], bytes[3], bytes[4]);
    }

    private static void fedBytes() {
        for (int place = 0; place < 5; place++) {
            AlertEngine x = new AlertEngine();
            for (int b : outside(0, 127)) due("byte " + b, feedAt(x, 5, place, b), BAD);
            due("tape", x.count(9), 0);
            due("byte 0", feedAt(x, 5, place, 0), 5);
            due("byte 127", feedAt(x, 5, place, 127), 10);
        }
    }

    private static void fedButNotAppended() {
        for (int n = 1; n <= 5; n++) {
            for (int place = 0; place < 5; place++) {
                AlertEngine x = new AlertEngine();
                for (int b : outside(0, 127)) due("byte " + b, feedAt(x, n, place, b), BAD);
                due("tape", x.count(9), 0);
                due("right ones", feedAt(x, n, place, 127), n);
            }
        }
        due("n wrong, bytes right", new AlertEngine().feed(6, 1, 1, 1, 1, 1), BAD);
        due("both wrong", new AlertEngine().feed(0, 128, 1, 1, 1, 1), BAD);
    }

    private static void fullTape() {
        for (int room = 0; room < 5; room++) {
            AlertEngine x = new AlertEngine();
            String text = "t0>t0/" + "t".repeat(54);
            Check.feed(x, text.substring(0, 60 - room));
            for (int n = room + 1; n <= 5; n++) due(n + " for " + room, x.feed(n, 'x', 'x', 'x', 'x', 'x'), FULL);
            due("none is appended", x.count(9), 60 - room);
            if (room > 0) due("the rest", x.feed(room, 'z', 'z', 'z', 'z', 'z'), 60);
            due("the tape is read", x.add(INHIBITION), 0);
        }
    }

    private static void removed() {
        String[] texts = {"=1for0sev0", "s0@1+1", "s0>s1/"};
        int[] most = {5, 6, 4};
        for (int kind = 0; kind < 3; kind++) {
            AlertEngine x = new AlertEngine();
            for (int i = 0; i < most[kind]; i++) add(x, kind, texts[kind]);
            for (int number : outside(0, most[kind] - 1)) due("number " + number, x.remove(kind, number), NONE);
            for (int other : outside(0, 2)) due("kind " + other, x.remove(other, 0), NONE);
            due("of another kind", x.remove((kind + 1) % 3, 0), NONE);
            due("all are there", x.count(1 + kind), most[kind]);
            for (int i = most[kind] - 1; i >= 0; i--) {
                due("remain", x.remove(kind, i), i);
                due("count", x.count(1 + kind), i);
                due("no more", x.remove(kind, i), NONE);
            }
        }
    }

    private static void parameterBounds(int first, int last) {
        for (int what = first; what <= last; what++) {
            AlertEngine x = new AlertEngine();
            due("initially", x.count(10 + what), INITIALLY[what]);
            for (int v : outside(LEAST[what], MOST[what])) due("value " + v, x.parameter(what, v), BAD);
            due("unchanged", x.count(10 + what), INITIALLY[what]);
            due("the least", x.parameter(what, LEAST[what]), INITIALLY[what]);
            due("is set", x.count(10 + what), LEAST[what]);
            due("the greatest", x.parameter(what, MOST[what]), LEAST[what]);
            due("is set", x.count(10 + what), MOST[what]);
        }
    }

    private static void parameterNumbers() {
        AlertEngine x = new AlertEngine();
        for (int what : outside(0, 4)) due("no parameter " + what, x.parameter(what, 3), NONE);
        for (int what : ends(0, 4)) due("parameter " + what, x.parameter(what, 3), INITIALLY[what]);
    }

    private static void parameterAnswers() {
        AlertEngine x = new AlertEngine();
        for (int what : outside(0, 4)) due("neither", x.parameter(what, MIN), NONE);
        for (int what = 0; what <= 4; what++) {
            due("previous", x.parameter(what, 3), INITIALLY[what]);
            due("the same", x.parameter(what, 3), 3);
            for (int v : outside(LEAST[what], MOST[what])) due("out of range", x.parameter(what, v), BAD);
            due("the others stay", x.count(10 + (what + 1) % 5), what == 4 ? 3 : INITIALLY[what + 1]);
        }
    }

    private static void passedMinutes() {
        AlertEngine x = new AlertEngine();
        for (int n : outside(1, 100)) due("n " + n, x.pass(n), BAD);
        due("time", x.count(0), 0);
        due("1 minute", x.pass(1), 0);
        due("time", x.count(0), 1);
        due("100 minutes", x.pass(100), 0);
        due("time", x.count(0), 101);
    }

    /** Takes more calls than an object is promised to be good for; 512 of them do not get there. */
    private static void lastMinute() {
        AlertEngine x = new AlertEngine();
        for (int minute = 0; minute < 99900; minute += 100) x.pass(100);
        due("too far", x.pass(100), FULL);
        due("out of range", x.pass(101), BAD);
        due("99998", x.pass(98), 0);
        due("too far", x.pass(2), FULL);
        due("99999", x.pass(1), 0);
        due("too far", x.pass(1), FULL);
        due("time", x.count(0), 99999);
    }

    private static void noAlert() {
        AlertEngine x = withRules("=0for0sev0", "=0for0sev0", "=0for0sev0", "=0for0sev0", "=0for0sev0");
        for (int rule : outside(0, 4)) due("rule " + rule, x.alert(rule, 0, 0), NONE);
        for (int series : outside(0, 11)) due("series " + series, x.alert(4, series, 0), NONE);
        for (int what : outside(0, 10)) due("what " + what, x.alert(4, 11, what), NONE);
        due("the last", x.alert(4, 11, 10), 0);
        for (int rule = 0; rule < 5; rule++) {
            x.remove(RULE, rule);
            for (int what = 0; what <= 10; what++) due("removed " + rule, x.alert(rule, 0, what), NONE);
            if (rule < 4) due("the next one", x.alert(rule + 1, 0, 0), 0);
        }
    }

    private static void noSet() {
        AlertEngine x = withRules("=0for0sev0");
        for (int what : outside(0, 6)) due("what " + what, x.alerts(what), -1L);
        for (int what = 0; what <= 6; what++) due("what " + what, x.alerts(what), 0);
    }

    private static void groupKeys() {
        AlertEngine x = new AlertEngine();
        for (int key : outside(0, 127)) {
            for (int what = 0; what <= 4; what++) due("key " + key, x.group(key, what), NONE);
        }
        long[] want = {0, NOTHING, 0, 0, NOTHING};
        for (int key : ends(0, 127)) {
            for (int what = 0; what <= 4; what++) due("key " + key, x.group(key, what), want[what]);
        }
        due("a key between", x.group(64, 0), 0);
    }

    private static void noGroup() {
        AlertEngine x = withRules("=0for0sev0");
        x.sample(0, 0);
        x.pass(1);
        for (int what : outside(0, 4)) {
            due("what " + what, x.group(0, what), NONE);
            due("what of a closed one " + what, x.group(127, what), NONE);
            due("neither", x.group(128, what), NONE);
        }
    }

    private static void noKey() {
        AlertEngine x = withRules("=0for0sev0");
        due("none of them", x.key(-1), 0);
        for (int i : new int[] {0, 1, -2, 127, 128, MAX, MIN}) due("index " + i, x.key(i), NONE);
        for (int series = 0; series < 12; series++) {
            x.label(series, 1, series % 8);
            x.label(series, 2, series / 8);
            x.sample(series, 0);
        }
        x.parameter(GROUPING, 6);
        x.pass(1);
        due("twelve of them", x.key(-1), 12);
        due("the first", x.key(0), 0);
        due("the last", x.key(11), 28);
        for (int i : new int[] {12, 13, -2, 127, 128, MAX, MIN}) due("index " + i, x.key(i), NONE);
    }

    private static void noNotification() {
        AlertEngine x = withRules("=0for0sev0");
        for (int i : new int[] {0, 1, 29}) due("none yet", x.sent(i, 0), NONE);
        step(x, 0);
        step(x, 1);
        due("the older one", x.sent(1, 0), 1);
        for (int i : outside(0, 1)) due("notification " + i, x.sent(i, 0), NONE);
        for (int what : outside(0, 4)) due("what " + what, x.sent(0, what), NONE);
        due("neither", x.sent(2, 5), NONE);
    }

    private static void aheadSpans() {
        AlertEngine x = withRules("=0for0sev0");
        x.sample(0, 0);
        for (int n : outside(1, 100)) due("n " + n, x.ahead(n), BAD);
        for (int n : ends(1, 100)) due("n " + n, x.ahead(n), n == 1 ? 1 : 2);
    }

    private static void nextSpans() {
        AlertEngine x = withRules("=0for0sev0");
        x.sample(0, 0);
        for (int n : outside(1, 100)) due("n " + n, x.next(n), BAD);
        for (int n : ends(1, 100)) due("n " + n, x.next(n), 1);
    }

    private static void savedErrors() {
        AlertEngine x = withRules("=0for0sev0");
        for (int silence = 0; silence < 6; silence++) due("not there", x.saved(silence, 1), NONE);
        for (int silence = 0; silence < 6; silence++) add(x, SILENCE, "t3@0+1");
        for (int silence : ends(0, 5)) due("there", x.saved(silence, 100), 1000);
        for (int silence : outside(0, 5)) due("silence " + silence, x.saved(silence, 1), NONE);
        for (int n : outside(1, 100)) {
            due("n " + n, x.saved(5, n), BAD);
            due("neither", x.saved(6, n), NONE);
        }
        x.remove(SILENCE, 5);
        due("removed", x.saved(5, 1), NONE);
    }

    private static void noSnapshot() {
        AlertEngine x = withRules("=0for0sev0");
        due("none", x.undo(), STATE);
        due("the rule stays", x.count(1), 1);
        x.pass(3);
        due("none later", x.undo(), STATE);
        due("the time stays", x.count(0), 3);
        due("image", x.image(), 3);
        due("one", x.undo(), 3);
    }

    private static void noCount() {
        AlertEngine x = new AlertEngine();
        for (int what : outside(0, 14)) due("what " + what, x.count(what), NONE);
        for (int what = 10; what <= 14; what++) due("what " + what, x.count(what), INITIALLY[what - 10]);
        due("bytes", x.count(9), 0);
    }

    private static void countedEntries() {
        String[] texts = {"=1for0sev0", "s0@1+1", "s0>s1/"};
        int[] most = {5, 6, 4};
        AlertEngine x = new AlertEngine();
        for (int kind = 0; kind < 3; kind++) {
            for (int i = 1; i <= most[kind]; i++) {
                add(x, kind, texts[kind]);
                due("as many", x.count(1 + kind), i);
            }
            due("full", x.add(kind), FULL);
            due("none more", x.count(1 + kind), most[kind]);
        }
        x.pass(100);
        due("minute", x.count(0), 100);
        for (int kind = 0; kind < 3; kind++) due("kind " + kind, x.count(1 + kind), most[kind]);
    }

    private static void countedBytesAndParameters() {
        AlertEngine x = new AlertEngine();
        for (int bytes = 1; bytes <= 60; bytes++) {
            x.feed(1, 0, 0, 0, 0, 0);
            due("bytes", x.count(9), bytes);
        }
        x.feed(1, 0, 0, 0, 0, 0);
        due("no more", x.count(9), 60);
        for (int p = 0; p < 5; p++) {
            x.parameter(p, LEAST[p] + 5);
            for (int other = 0; other < 5; other++) due("parameter " + other, x.count(10 + other), other <= p ? LEAST[other] + 5 : INITIALLY[other]);
        }
        due("none before", x.count(-1), NONE);
        due("none behind", x.count(15), NONE);
    }

    private static void firstError() {
        AlertEngine x = withRules("=0for0sev0", "=0for0sev0", "=0for0sev0", "=0for0sev0", "=0for0sev0");
        due("label: no series, bad value", x.label(12, 0, 4), NONE);
        due("label: no label, bad value", x.label(0, 3, 8), NONE);
        due("parameter: neither", x.parameter(5, 1000), NONE);
        due("saved: neither", x.saved(0, 0), NONE);
        due("add: no kind, all full", x.add(3), NONE);
        due("add: full, wrong text", add(x, RULE, "wrong"), FULL);
        Check.feed(x, "t".repeat(55));
        due("tape", x.count(9), 60);
        due("feed: bad number, full", x.feed(6, 1, 1, 1, 1, 1), BAD);
        due("feed: bad byte, full", x.feed(1, 1, 1, 1, 1, 128), BAD);
        due("feed: full", x.feed(1, 1, 1, 1, 1, 1), FULL);
    }

    /** Each answer -5, and beside it the same question with an error. */
    private static void nothingOnlyWithoutError() {
        AlertEngine x = withRules("=0for0sev0");
        for (int what : new int[] {1, 8, 9}) {
            due("alert", x.alert(0, 0, what), NOTHING);
            due("no rule", x.alert(1, 0, what), NONE);
            due("no series", x.alert(0, 12, what), NONE);
        }
        due("alert, no what", x.alert(0, 0, 11), NONE);
        for (int what : new int[] {1, 4}) {
            due("group", x.group(127, what), NOTHING);
            due("no group", x.group(128, what), NONE);
            due("no group", x.group(-1, what), NONE);
        }
        due("next", x.next(100), NOTHING);
        due("next", x.next(101), BAD);
        due("next", x.next(0), BAD);
        due("count", x.count(7), NOTHING);
        step(x, 0);
        step(x, 1);
        due("sent", x.sent(0, 4), NOTHING);
        due("no notification", x.sent(2, 4), NONE);
        due("no what", x.sent(0, 5), NONE);
    }
}
