import com.sun.management.ThreadMXBean;
import java.lang.management.ManagementFactory;
import java.util.function.Consumer;

/** All calls of a run live in one room: what an engine takes when it is made, and with each call. */
public final class RoomTests {
    private static final int CALLS = 512;
    /** An object takes 16 bytes at least, a field or element one, so that this many keep within both limits of the room. */
    private static final long ROOM = 7_300_000;
    private static final long NEW_ENGINE = ROOM / 100;
    /** What the machine itself may put on the test's account. */
    private static final long NOISE = 20_000;

    private static final ThreadMXBean THREADS = (ThreadMXBean) ManagementFactory.getThreadMXBean();
    private static final int RULE = 0, SILENCE = 1, INHIBITION = 2;

    private RoomTests() {
    }

    public static void main(String[] args) {
        long made = taken(RoomTests::makeOne);
        Check.same("a new engine takes " + made + " bytes, few enough", made <= NEW_ENGINE, true);
        takesNothing("label", x -> x.label(3, 1, 2));
        takesNothing("sample and drop", x -> x.sample(3, x.drop(3)));
        takesNothing("feed", x -> x.feed(5, 't', 't', 't', 't', 't'));
        takesNothing("parameter", x -> x.parameter(4, 7 - x.parameter(4, 3)));
        takesNothing("remove", x -> x.remove(RULE, 3));
        takesNothing("pass", x -> x.pass(100));
        takesNothing("alert", RoomTests::askOfAlert);
        takesNothing("alerts", RoomTests::askOfSets);
        takesNothing("group", RoomTests::askOfGroup);
        takesNothing("key", x -> x.key(x.key(-1) - 1));
        takesNothing("sent", x -> x.sent(29, 4));
        takesNothing("ahead", x -> x.ahead(100));
        takesNothing("next", x -> x.next(100));
        takesNothing("saved", x -> x.saved(0, 100));
        takesNothing("image and undo", x -> x.sample(0, x.image() + x.undo()));
        takesNothing("count", RoomTests::askOfCounts);
        adding("nothing", RULE, "");
        adding("a wrong rule", RULE, "!t0,!t0,!t0,!t0,");
        adding("a rule", RULE, "!t0,!t0,!t0,!t0:>-1for1sev1");
        adding("a silence", SILENCE, "!t0,!t0,!t0,!t0@0+9");
        adding("an inhibition", INHIBITION, "!t0,!t0,!t0,!t0>t1,t1,t1,t1/thz");
        Check.end("RoomTests");
    }

    private static void makeOne() {
        new AlertEngine();
    }

    private static void askOfAlert(AlertEngine x) {
        for (int what = 0; what < 11; what++) x.alert(4, 11, what);
    }

    private static void askOfSets(AlertEngine x) {
        for (int what = 0; what < 7; what++) x.alerts(what);
    }

    private static void askOfGroup(AlertEngine x) {
        for (int what = 0; what < 5; what++) x.group(127, what);
    }

    private static void askOfCounts(AlertEngine x) {
        for (int what = 0; what < 15; what++) x.count(what);
    }

    /** The bytes that the second run takes, when all that the first one had to load is there. */
    private static long taken(Runnable run) {
        run.run();
        long thread = Thread.currentThread().getId();
        long before = THREADS.getThreadAllocatedBytes(thread);
        run.run();
        return THREADS.getThreadAllocatedBytes(thread) - before;
    }

    private static AlertEngine busy() {
        AlertEngine x = new AlertEngine();
        for (int i = 0; i < 5; i++) Check.add(x, RULE, ">" + i + "for0sev" + i % 4);
        for (int i = 0; i < 6; i++) Check.add(x, SILENCE, "h" + i + "@0+9999");
        for (int i = 0; i < 4; i++) Check.add(x, INHIBITION, "s3>s" + i + "/t");
        for (int series = 0; series < 12; series++) {
            x.label(series, 0, series % 4);
            x.label(series, 1, series % 8);
            x.sample(series, series);
        }
        x.parameter(1, 1);
        x.pass(40);
        return x;
    }

    private static void takesNothing(String what, Consumer<AlertEngine> call) {
        AlertEngine x = busy();
        long bytes = taken(() -> many(x, call));
        Check.same(what + " takes " + bytes + " bytes in " + CALLS + " calls, as good as none", bytes <= NOISE, true);
    }

    private static void many(AlertEngine x, Consumer<AlertEngine> call) {
        for (int i = 0; i < CALLS; i++) call.accept(x);
    }

    /** More than a run can hold: each of its calls adds a text, which stands on the tape already. */
    private static void adding(String what, int kind, String text) {
        AlertEngine x = new AlertEngine();
        long bytes = taken(() -> many(x, one -> addAndRemove(one, kind, text)));
        Check.same(what + " added " + CALLS + " times takes " + bytes + " bytes, few enough", bytes <= ROOM - NEW_ENGINE, true);
    }

    private static void addAndRemove(AlertEngine x, int kind, String text) {
        Check.add(x, kind, text);
        x.remove(kind, 0);
    }
}
