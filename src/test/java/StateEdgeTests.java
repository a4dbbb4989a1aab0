import java.util.function.Consumer;
import java.util.function.ToLongFunction;

/** What leaves the state as it was, and what a snapshot contains. */
public final class StateEdgeTests extends Edges {
    private static final int PROBES = 400;

    private StateEdgeTests() {
    }

    public static void main(String[] args) {
        everyPartHoldsSomething();
        holds(DESCRIPTION, "A call that returns an error code leaves the state unchanged", StateEdgeTests::errorsChangeNothing);
        holds(DESCRIPTION, "Questions do not change the state", StateEdgeTests::questionsChangeNothing);
        holds(15, "if no call changed anything", StateEdgeTests::forecastsChangeNothing);
        holds(DESCRIPTION, "The snapshot contains everything but itself and the tape.", StateEdgeTests::everythingIsRestored);
        holds(DESCRIPTION, "everything but itself and the tape", StateEdgeTests::tapeIsNotRestored);
        holds(DESCRIPTION, "The snapshot contains the notifications and the open groups, too.", StateEdgeTests::notificationsAreRestored);
        holds(18, "Takes a snapshot, in place of an earlier one.", StateEdgeTests::laterSnapshot);
        holds(18, "Returns the present minute.", StateEdgeTests::minuteOfImage);
        holds(19, "Restores the snapshot, which stays.", StateEdgeTests::snapshotStays);
        holds(19, "Returns the present minute; STATE if there is no snapshot.", StateEdgeTests::minuteOfUndo);
        holds(DESCRIPTION, "An object is used for at most 512 calls after it has been made", StateEdgeTests::manyCalls);
        Check.end("StateEdgeTests");
    }

    /** An engine at minute 9 in which every part of the state holds something, with an earlier snapshot. */
    private static AlertEngine busy() {
        AlertEngine x = withRules(">0for0sev1", "!t3:>0for4sev2", "h1:=5for0sev3");
        add(x, SILENCE, "h3@0+99");
        add(x, SILENCE, "z1@12+5");
        add(x, INHIBITION, "s3>s1/t");
        x.parameter(GROUP_INTERVAL, 4);
        x.parameter(REPEAT_INTERVAL, 20);
        x.parameter(WINDOW, 40);
        x.parameter(FLAPS, 3);
        for (int series = 0; series < 6; series++) {
            x.label(series, 0, series % 4);
            x.label(series, 1, series);
            x.label(series, 2, series % 3);
        }
        x.sample(5, 7);
        x.pass(1);
        x.image();
        for (int i = 0; i < 4; i++) {
            x.sample(11, i % 2 == 0 ? 1 : 0);
            x.pass(1);
        }
        for (int series = 0; series < 4; series++) x.sample(series, 5);
        x.pass(2);
        x.sample(8, 1);
        x.sample(11, 1);
        x.pass(2);
        x.sample(9, 3);
        Check.feed(x, "s0@1");
        return x;
    }

    private static void everyPartHoldsSomething() {
        AlertEngine x = busy();
        for (int what = 0; what < 7; what++) due("the set " + what + " is not empty", x.alerts(what) != 0 ? 1 : 0, 1);
        for (int what = 0; what < 15; what++) due("the count " + what + " is not 0", x.count(what) > 0 ? 1 : 0, 1);
        due("there are newcomers", x.group(0, 3) > 0 && x.group(0, 0) == 1 ? 1 : 0, 1);
        due("there is an earlier snapshot", x.undo(), 1);
    }

    /** What an engine answers to all questions, and then to calls that tell the rest of its state. */
    private static long[] probe(AlertEngine x) {
        long[] answers = new long[PROBES];
        int n = ask(x, answers, 0);
        Check.feed(x, "+99");
        answers[n++] = x.add(SILENCE);
        answers[n++] = x.count(9);
        for (int series = 0; series < 12; series++) {
            for (int label = 0; label < 3; label++) answers[n++] = x.label(series, label, 0);
        }
        answers[n++] = x.pass(30);
        for (int what = 0; what < 7; what++) answers[n++] = x.alerts(what);
        for (int series = 0; series < 12; series++) answers[n++] = x.drop(series);
        answers[n++] = x.pass(30);
        for (int what = 0; what < 15; what++) answers[n++] = x.count(what);
        answers[n++] = x.undo();
        for (int what = 0; what < 7; what++) answers[n++] = x.alerts(what);
        for (int what = 0; what < 15; what++) answers[n++] = x.count(what);
        return answers;
    }

    private static int ask(AlertEngine x, long[] answers, int from) {
        int n = from;
        for (int what = 0; what < 7; what++) answers[n++] = x.alerts(what);
        for (int what = 0; what < 15; what++) answers[n++] = x.count(what);
        for (int i = -1; i < 5; i++) answers[n++] = x.key(i);
        for (int i = 0; i < 40; i++) answers[n++] = x.sent(i / 5, i % 5);
        for (int i = 0; i < 20; i++) answers[n++] = x.group(32 * (i / 5), i % 5);
        for (int i = 0; i < 72; i++) answers[n++] = x.alert(i / 24, i / 2 % 12, i % 2 == 0 ? 1 : 6);
        for (int i = 0; i < 24; i++) answers[n++] = x.alert(i / 12, i % 4, 7 + i / 4 % 3);
        answers[n++] = x.ahead(60);
        answers[n++] = x.next(60);
        answers[n++] = x.saved(0, 60);
        return n;
    }

    private static void same(String what, AlertEngine got, AlertEngine want) {
        long[] gotAnswers = probe(got);
        long[] wantAnswers = probe(want);
        for (int i = 0; i < PROBES; i++) due(what + ", answer " + i, gotAnswers[i], wantAnswers[i]);
    }

    private static void error(String what, int code, ToLongFunction<AlertEngine> call) {
        AlertEngine x = busy();
        due(what, call.applyAsLong(x), code);
        same(what, x, busy());
    }

    private static void errorsChangeNothing() {
        error("label of no series", NONE, x -> x.label(12, 0, 1));
        error("no label", NONE, x -> x.label(0, 3, 1));
        error("label out of range", BAD, x -> x.label(0, 0, 4));
        error("label below the range", BAD, x -> x.label(0, 1, -1));
        error("sample of no series", NONE, x -> x.sample(12, 5));
        error("drop of no series", NONE, x -> x.drop(-1));
        error("feed of no bytes", BAD, x -> x.feed(0, 'x', 'x', 'x', 'x', 'x'));
        error("feed of six bytes", BAD, x -> x.feed(6, 'x', 'x', 'x', 'x', 'x'));
        error("feed of a wrong byte behind right ones", BAD, x -> x.feed(5, 'x', 'x', 'x', 'x', 128));
        error("feed of a wrong byte that is not appended", BAD, x -> x.feed(1, 'x', 'x', 'x', 'x', -1));
        error("add of no kind", NONE, x -> x.add(3));
        error("remove of no kind", NONE, x -> x.remove(3, 0));
        error("remove of no rule", NONE, x -> x.remove(RULE, 3));
        error("remove of no silence", NONE, x -> x.remove(SILENCE, 2));
        error("remove of no inhibition", NONE, x -> x.remove(INHIBITION, -1));
        error("no parameter", NONE, x -> x.parameter(5, 1));
        error("parameter 0", BAD, x -> x.parameter(GROUP_INTERVAL, 61));
        error("parameter 1", BAD, x -> x.parameter(REPEAT_INTERVAL, 0));
        error("parameter 2", BAD, x -> x.parameter(WINDOW, 1000));
        error("parameter 3", BAD, x -> x.parameter(FLAPS, 1));
        error("parameter 4", BAD, x -> x.parameter(GROUPING, 8));
        error("pass of no minute", BAD, x -> x.pass(0));
        error("pass of 101 minutes", BAD, x -> x.pass(101));
        error("alert of no rule", NONE, x -> x.alert(3, 0, 0));
        error("no set", NONE, x -> x.alerts(7));
        error("no group", NONE, x -> x.group(128, 0));
        error("no key", NONE, x -> x.key(99));
        error("no notification", NONE, x -> x.sent(30, 0));
        error("ahead of 101 minutes", BAD, x -> x.ahead(101));
        error("next of 101 minutes", BAD, x -> x.next(101));
        error("saved of no silence", NONE, x -> x.saved(2, 5));
        error("saved of 101 minutes", BAD, x -> x.saved(0, 101));
        error("no count", NONE, x -> x.count(15));
        fullChangesNothing();
    }

    private static void fullChangesNothing() {
        AlertEngine fed = new AlertEngine(), right = new AlertEngine();
        for (AlertEngine x : new AlertEngine[] {fed, right}) Check.feed(x, "t0>t0/" + "h".repeat(53));
        due("feed", fed.feed(2, 'x', 'x', 'x', 'x', 'x'), FULL);
        due("tape", fed.count(9), 59);
        same("feed to a full tape", fed, right);
        AlertEngine added = full(), full = full();
        due("add", added.add(SILENCE), FULL);
        same("add to full silences", added, full);
        AlertEngine none = withRules("=0for0sev0"), other = withRules("=0for0sev0");
        due("undo", none.undo(), STATE);
        same("undo without a snapshot", none, other);
    }

    private static AlertEngine full() {
        AlertEngine x = withRules("=0for0sev0");
        for (int i = 0; i < 6; i++) add(x, SILENCE, "t0@" + i + "+1");
        Check.feed(x, "t0@7");
        return x;
    }

    /** Each question on its own, and then all of them. */
    private static void questionsChangeNothing() {
        for (int question = 0; question < 10; question++) {
            AlertEngine x = busy();
            for (int i = -1; i < 16; i++) question(x, question, i);
            same("question " + question, x, busy());
        }
        AlertEngine x = busy();
        ask(x, new long[PROBES], 0);
        same("all questions", x, busy());
        sameAnswersTwice();
    }

    private static void question(AlertEngine x, int question, int i) {
        switch (question) {
            case 0: x.alert(0, 11, i); break;
            case 1: x.alerts(i); break;
            case 2: x.group(32 * (i & 3), i); break;
            case 3: x.key(i); break;
            case 4: x.sent(i, 0); break;
            case 5: x.ahead(1 + 6 * i); break;
            case 6: x.next(1 + 6 * i); break;
            case 7: x.saved(0, 1 + 6 * i); break;
            case 8: x.saved(1, 1 + 6 * i); break;
            default: x.count(i);
        }
    }

    private static void sameAnswersTwice() {
        AlertEngine x = busy();
        long[] first = new long[PROBES];
        long[] second = new long[PROBES];
        ask(x, first, 0);
        ask(x, second, 0);
        for (int i = 0; i < PROBES; i++) due("answer " + i + ", asked again", second[i], first[i]);
    }

    private static void forecastsChangeNothing() {
        AlertEngine x = busy();
        int due = busy().pass(100);
        for (int i = 0; i < 3; i++) {
            due("ahead", x.ahead(100), due);
            x.saved(0, 100);
            x.saved(1, 50);
            due("next", x.next(100), busy().next(100));
        }
        due("what was forecast", x.pass(100), due);
    }

    /** Takes a snapshot, makes a change, undoes it, and compares with an engine that was never changed. */
    private static void restored(String what, Consumer<AlertEngine> change) {
        AlertEngine x = busy(), y = busy();
        x.image();
        y.image();
        change.accept(x);
        due(what, x.undo(), 9);
        same(what, x, y);
    }

    private static void everythingIsRestored() {
        restored("time", x -> x.pass(1));
        restored("much time", x -> x.pass(100));
        for (int label = 0; label < 3; label++) {
            int one = label;
            restored("label of series 2", x -> x.label(2, one, 1));
            restored("label of series 11", x -> x.label(11, one, 3));
        }
        restored("a value", x -> x.sample(0, -5));
        restored("a new value", x -> x.sample(10, 5));
        restored("a dropped value", x -> x.drop(9));
        restored("a removed rule", x -> x.remove(RULE, 0));
        restored("all rules", x -> {
            for (int rule = 0; rule < 3; rule++) x.remove(RULE, rule);
            x.pass(1);
        });
        restored("a removed silence", x -> x.remove(SILENCE, 0));
        restored("a removed inhibition", x -> x.remove(INHIBITION, 0));
        int[] values = {5, 21, 41, 4, 3};
        for (int what = 0; what < 5; what++) {
            int one = what;
            restored("parameter " + one, x -> x.parameter(one, values[one]));
        }
        restored("transitions", x -> {
            for (int i = 0; i < 25; i++) {
                x.sample(11, i % 2);
                x.pass(1);
            }
        });
        addedOnesAreRestored();
        allSlotsAreRestored();
        transitionMinutesAreRestored();
    }

    private static void allSlotsAreRestored() {
        String[] texts = {"=0for0sev0", "t3@0+1", "t3>t3/"};
        int[] most = {5, 6, 4};
        for (int kind = 0; kind < 3; kind++) {
            AlertEngine x = new AlertEngine();
            for (int i = 0; i < most[kind]; i++) add(x, kind, texts[kind]);
            x.image();
            for (int i = 0; i < most[kind]; i++) x.remove(kind, i);
            x.undo();
            due("all", x.count(1 + kind), most[kind]);
            for (int i = 0; i < most[kind]; i++) due("number " + i, x.remove(kind, i), most[kind] - 1 - i);
            x.undo();
            due("full", x.add(kind), FULL);
            for (int i = 0; i < 12 && kind == RULE; i++) x.sample(i, 0);
            if (kind == RULE) due("all alerts", x.alerts(6), (1L << 60) - 1);
        }
        AlertEngine x = new AlertEngine();
        x.image();
        for (int kind = 0; kind < 3; kind++) {
            for (int i = 0; i < most[kind]; i++) add(x, kind, texts[kind]);
        }
        x.undo();
        for (int kind = 0; kind < 3; kind++) {
            due("none", x.count(1 + kind), 0);
            for (int i = 0; i < most[kind]; i++) due("number " + i, x.remove(kind, i), NONE);
        }
    }

    private static void addedOnesAreRestored() {
        String[] texts = {"<9for0sev3", "!s2@0+999", "s1>s2/"};
        for (int kind = 0; kind < 3; kind++) {
            AlertEngine x = busy(), y = busy();
            for (AlertEngine one : new AlertEngine[] {x, y}) {
                one.add(SILENCE);
                one.image();
            }
            due(texts[kind], add(x, kind, texts[kind]), new int[] {3, 2, 1}[kind]);
            x.pass(3);
            x.undo();
            same("an added " + texts[kind], x, y);
        }
    }

    /** The minutes of the remembered transitions, which later ones have taken the places of. */
    private static void transitionMinutesAreRestored() {
        AlertEngine x = withRules("=1for0sev0");
        for (int i = 1; i <= 20; i++) step(x, i % 2);
        x.image();
        x.pass(5);
        for (int i = 1; i <= 20; i++) step(x, i % 2);
        x.undo();
        for (int window = 1; window <= 20; window++) {
            x.parameter(WINDOW, window);
            due("at 20, within " + window, x.alert(0, 0, 6), window);
        }
        x.pass(5);
        due("at 25, within 20", x.alert(0, 0, 6), 15);
    }

    private static void tapeIsNotRestored() {
        AlertEngine x = busy();
        x.image();
        x.feed(3, '+', '9', '9', 0, 0);
        x.undo();
        due("the later bytes stay", x.count(9), 7);
        due("all of them", x.add(SILENCE), 2);
        x.undo();
        due("the silence does not", x.count(2), 2);
        due("the emptied tape stays empty", x.count(9), 0);
        due("wrong", x.add(RULE), -100);
        AlertEngine none = new AlertEngine();
        none.image();
        Check.feed(none, "t".repeat(60));
        none.undo();
        due("full", none.feed(1, 't', 0, 0, 0, 0), FULL);
        due("bytes", none.count(9), 60);
        none.image();
        none.add(RULE);
        none.undo();
        due("none", none.count(9), 0);
    }

    private static void notificationsAreRestored() {
        AlertEngine x = withRules("=0for0sev1");
        x.parameter(REPEAT_INTERVAL, 1);
        x.sample(0, 0);
        x.pass(40);
        x.image();
        x.sample(0, 1);
        x.sample(1, 0);
        x.label(1, 0, 2);
        x.pass(50);
        x.undo();
        due("all", x.count(5), 40);
        for (int i = 0; i < 30; i++) due("minute", x.sent(i, 0), 40 - i);
        for (int i = 0; i < 30; i++) due("kind", x.sent(i, 2), 2);
        due("no more", x.sent(30, 0), NONE);
        due("open groups", x.count(6), 1);
        due("open", x.group(0, 0), 1);
        due("latest sending", x.group(0, 1), 40);
        due("the later one is not", x.group(64, 0), 0);
        due("not new", x.group(0, 3), 0);
        x.remove(RULE, 0);
        x.pass(1);
        due("resolved", x.count(6), 0);
        x.undo();
        due("open again", x.count(6), 1);
        due("repeated, not opened", x.pass(1) * 10 + x.sent(0, 2), 12);
    }

    private static void laterSnapshot() {
        AlertEngine x = withRules("=0for0sev1");
        x.image();
        x.sample(0, 0);
        x.pass(2);
        x.image();
        x.drop(0);
        x.pass(3);
        due("the later one", x.undo(), 2);
        due("its value", x.count(4), 1);
        due("the later one again", x.undo(), 2);
        x.image();
        x.pass(1);
        due("the third one", x.undo(), 2);
    }

    private static void minuteOfImage() {
        AlertEngine x = new AlertEngine();
        due("at 0", x.image(), 0);
        x.pass(100);
        due("at 100", x.image(), 100);
        x.pass(1);
        due("at 101", x.image(), 101);
        due("the time stays", x.count(0), 101);
    }

    private static void snapshotStays() {
        AlertEngine x = busy();
        x.undo();
        AlertEngine y = busy();
        y.undo();
        for (int i = 0; i < 3; i++) {
            x.remove(RULE, 0);
            for (int series = 0; series < 12; series++) x.sample(series, i);
            x.pass(10 + i);
            due("undo " + i, x.undo(), 1);
        }
        same("after three times", x, y);
    }

    private static void minuteOfUndo() {
        AlertEngine x = new AlertEngine();
        due("none", x.undo(), STATE);
        x.pass(7);
        due("none", x.undo(), STATE);
        x.image();
        due("at once", x.undo(), 7);
        x.pass(90);
        due("back", x.undo(), 7);
        due("the time is back", x.count(0), 7);
        x.pass(1);
        due("and goes on from there", x.count(0), 8);
    }

    private static void manyCalls() {
        AlertEngine passing = new AlertEngine();
        for (int call = 1; call < 512; call++) passing.pass(100);
        due("the last call", passing.count(0), 51100);
        AlertEngine sending = withRules("=0for0sev0", "=0for0sev0", "=0for0sev0", "=0for0sev0", "=0for0sev0");
        for (int series = 0; series < 12; series++) sending.sample(series, 0);
        sending.parameter(REPEAT_INTERVAL, 1);
        for (int call = 29; call < 512; call++) due("a notification each minute", sending.pass(100), 100);
        due("the last call", sending.count(5), 48300);
        AlertEngine adding = new AlertEngine();
        for (int call = 0; call < 512; call += 4) {
            adding.feed(5, 't', '0', '>', 't', '0');
            adding.feed(1, '/', 0, 0, 0, 0);
            due("the only one", adding.add(INHIBITION), 0);
            due("none remains", adding.remove(INHIBITION, 0), 0);
        }
        AlertEngine flapping = withRules("=1for0sev0");
        flapping.parameter(WINDOW, 999);
        for (int call = 5; call < 511; call += 2) step(flapping, call / 2 % 2);
        due("the last call", flapping.alert(0, 0, 6), 20);
    }
}
