/** The boundary cases of the groups, their notifications, the log, and the forecasts. */
public final class GroupEdgeTests extends Edges {
    private static final int OPENED = 0, GROWN = 1, REPEATED = 2, RESOLVED = 3;

    private GroupEdgeTests() {
    }

    public static void main(String[] args) {
        groups();
        answers();
        forecasts();
        Check.end("GroupEdgeTests");
    }

    private static void groups() {
        holds(DESCRIPTION, "1 for the team, 2 for the host, 4 for the zone, added up; initially 1", GroupEdgeTests::groupings);
        holds(DESCRIPTION, "32 times its team plus 4 times its host plus its zone, where labels that are not in the grouping count as 0",
            GroupEdgeTests::keysOfLabels);
        holds(DESCRIPTION, "The group of a key consists of the active alerts with this key.", GroupEdgeTests::members);
        holds(DESCRIPTION, "A group is open if it was sent and was not resolved since.", GroupEdgeTests::openGroups);
        holds(DESCRIPTION, "the groups are looked at in ascending order of their keys", GroupEdgeTests::ascendingKeys);
        holds(DESCRIPTION, "at most one notification is sent for each", GroupEdgeTests::oneNotification);
        holds(DESCRIPTION, "of kind 0, if it is not empty and not open, whereby it becomes open", GroupEdgeTests::opening);
        holds(DESCRIPTION, "of kind 1, if it is open and contains an alert that was not in it when it was sent last", GroupEdgeTests::newAlert);
        holds(DESCRIPTION, "t minus the minute of the latest sending is at least the group interval", GroupEdgeTests::groupInterval);
        holds(DESCRIPTION, "otherwise of kind 2, if it is open and not empty and t minus this minute is at least the repeat interval",
            GroupEdgeTests::repeatInterval);
        holds(DESCRIPTION, "of kind 3, if it is open and empty, whereby it is resolved", GroupEdgeTests::resolving);
        holds(DESCRIPTION, "If the grouping is changed to another one, all groups are as if they had never been sent.", GroupEdgeTests::otherGrouping);
        holds(DESCRIPTION, "If parameter 4 gets the value that it has, nothing happens to the groups.", GroupEdgeTests::sameGrouping);
        holds(DESCRIPTION, "A group whose alerts are all gone is resolved in the next step.", GroupEdgeTests::goneAlerts);
        holds(DESCRIPTION, "A group that is open and empty, and one that is not open and not empty, would be sent in the next minute.",
            GroupEdgeTests::sentNextMinute);
        holds(DESCRIPTION, "An alert that left a group and came back between two sendings was in it when it was sent.", GroupEdgeTests::leftAndBack);
        holds(DESCRIPTION, "the alert of rule r and series s has the number 12 * r + s", GroupEdgeTests::ruleOfTheSameNumber);
    }

    private static void answers() {
        holds(9, "Returns the number of notifications that are sent", GroupEdgeTests::passAnswers);
        holds(12, "0 whether it is open (1 or 0)", GroupEdgeTests::openOrNot);
        holds(12, "2 the number of its active alerts", GroupEdgeTests::noneToSixty);
        holds(12, "1 the minute of its latest sending of the kinds 0, 1 and 2 since it is open, -5 if it is not open", GroupEdgeTests::latestSending);
        holds(12, "3 the number of those that were not in it when it was sent last, all if it is not open", GroupEdgeTests::newcomers);
        holds(12, "the minute at which it would be sent next if it kept its active alerts and no others were added, -5 if this would never be",
            GroupEdgeTests::nextSending);
        holds(13, "the index in the ascending order of these keys, from 0, or -1 for the number of these groups", GroupEdgeTests::indexesOfKeys);
        holds(14, "0 for the latest one, 1 for the one before it, and so on; the latest 30 are kept", GroupEdgeTests::thirtyNotifications);
        holds(14, "3 the number of alerts of the group, 4 their greatest severity, -5 for the kind 3", GroupEdgeTests::sizesAndSeverities);
        holds(20, "5 all notifications so far, those not kept included; 6 the open groups", GroupEdgeTests::allNotifications);
    }

    private static void forecasts() {
        holds(15, "the number of minutes, 1 to 100", GroupEdgeTests::aheadMinutes);
        holds(15, "Returns how many notifications the next minutes would bring if no call changed anything.", GroupEdgeTests::aheadLikePass);
        holds(16, "the greatest number of minutes that are looked ahead, 1 to 100", GroupEdgeTests::nextMinutes);
        holds(16, "Returns the minute, or -5 if none would be sent within these minutes", GroupEdgeTests::nextLikePass);
        holds(17, "Returns the number of notifications without the silence minus that with it, as for ahead, plus 1000", GroupEdgeTests::savedNotifications);
        holds(17, "the number of minutes, 1 to 100", GroupEdgeTests::savedMinutes);
        holds(17, "Returns how many of the notifications of the next minutes would be left if a silence did not exist", GroupEdgeTests::savedLikeRemoval);
    }

    /** An engine with one rule that fires at once for the value 0, without repeats until minute 999. */
    private static AlertEngine plain() {
        AlertEngine x = withRules("=0for0sev1");
        x.parameter(REPEAT_INTERVAL, 999);
        return x;
    }

    /** Twelve series with keys of their own when the grouping has the host and the zone. */
    private static void spread(AlertEngine x, int firstZone) {
        for (int series = 0; series < 12; series++) {
            x.label(series, 1, series % 8);
            x.label(series, 2, firstZone + series / 8);
        }
    }

    private static AlertEngine twelveGroups() {
        AlertEngine x = plain();
        x.parameter(GROUPING, 6);
        spread(x, 0);
        for (int series = 0; series < 12; series++) x.sample(series, 0);
        return x;
    }

    private static void lastSent(AlertEngine x, int minute, int key, int kind, int size) {
        int[] want = {minute, key, kind, size};
        for (int what = 0; what < 4; what++) due("number " + what + " of the latest notification", x.sent(0, what), want[what]);
    }

    private static void groupings() {
        int[] keys = {0, 96, 28, 124, 3, 99, 31, 127};
        due("initially", new AlertEngine().count(14), 1);
        for (int grouping = 0; grouping < 8; grouping++) {
            AlertEngine x = plain();
            x.label(11, 0, 3);
            x.label(11, 1, 7);
            x.label(11, 2, 3);
            x.sample(11, 0);
            due("initially the team", x.alert(0, 11, 7), 96);
            x.parameter(GROUPING, grouping);
            due("key", x.alert(0, 11, 7), keys[grouping]);
            due("sent", x.pass(1), 1);
            lastSent(x, 1, keys[grouping], OPENED, 1);
            due("group", x.group(keys[grouping], 2), 1);
            due("key", x.key(0), keys[grouping]);
        }
    }

    private static void keysOfLabels() {
        AlertEngine x = plain();
        x.parameter(GROUPING, 7);
        for (int key = 0; key < 128; key++) {
            x.label(0, 0, key / 32);
            if (key % 4 == 0) x.label(0, 1, key / 4 % 8);
            x.label(0, 2, key % 4);
            due("key", x.alert(0, 0, 7), key);
        }
        x.parameter(GROUPING, 5);
        due("without the host", x.alert(0, 0, 7), 99);
        x.label(0, 2, 0);
        due("zone 0", x.alert(0, 0, 7), 96);
    }

    private static void members() {
        AlertEngine x = withRules("=0for0sev1", "=0for9sev1", "=0for0sev2");
        x.sample(0, 0);
        x.sample(1, 0);
        x.label(1, 0, 3);
        x.pass(1);
        due("the firing ones of team 0", x.group(0, 2), 2);
        due("those of team 3", x.group(96, 2), 2);
        due("none of team 1", x.group(32, 2), 0);
        add(x, SILENCE, "s2@0+9");
        due("not the silenced one", x.group(0, 2), 1);
        add(x, SILENCE, "t3@0+9");
        due("none", x.group(96, 2), 0);
        due("is still open", x.group(96, 0), 1);
        due("one group", x.key(-1), 1);
    }

    private static void openGroups() {
        AlertEngine x = plain();
        due("never sent", x.group(0, 0), 0);
        step(x, 0);
        due("sent", x.group(0, 0), 1);
        x.sample(0, 1);
        due("empty in the next step", x.group(0, 0), 1);
        x.pass(1);
        due("resolved", x.group(0, 0), 0);
        due("count", x.count(6), 0);
        x.pass(100);
        due("stays so", x.count(5), 2);
        step(x, 0);
        due("sent again", x.group(0, 0), 1);
        lastSent(x, 103, 0, OPENED, 1);
    }

    private static void ascendingKeys() {
        AlertEngine x = twelveGroups();
        due("twelve", x.pass(1), 12);
        int[] keys = {0, 1, 4, 5, 8, 9, 12, 13, 16, 20, 24, 28};
        for (int i = 0; i < 12; i++) due("opened " + i, x.sent(11 - i, 1), keys[i]);
        spread(x, 2);
        due("twenty-four", x.pass(1), 24);
        for (int i = 0; i < 23; i++) due("ascending", x.sent(i, 1) > x.sent(i + 1, 1) ? 1 : 0, 1);
        for (int i = 0; i < 24; i++) due("of its kind", x.sent(i, 2), x.sent(i, 1) % 4 < 2 ? RESOLVED : OPENED);
        due("of the step before", x.sent(24, 0), 1);
        AlertEngine ends = plain();
        ends.parameter(GROUPING, 7);
        ends.sample(0, 0);
        for (int label = 0; label < 3; label++) ends.label(0, label, label == 1 ? 7 : 3);
        ends.sample(1, 0);
        ends.pass(1);
        due("the first key", ends.sent(1, 1), 0);
        due("the last key", ends.sent(0, 1), 127);
    }

    private static void oneNotification() {
        AlertEngine x = withRules("=0for0sev1");
        x.parameter(GROUP_INTERVAL, 3);
        x.parameter(REPEAT_INTERVAL, 3);
        step(x, 0);
        x.sample(1, 0);
        due("neither is due", x.pass(2), 0);
        due("kinds 1 and 2 are due", x.pass(1), 1);
        lastSent(x, 4, 0, GROWN, 2);
        due("not the other one in the next step", x.pass(1), 0);
        due("the repeat after it", x.pass(2), 1);
        lastSent(x, 7, 0, REPEATED, 2);
        x.drop(0);
        x.drop(1);
        x.sample(2, 0);
        due("all others: a new one, and due", x.pass(3), 1);
        lastSent(x, 10, 0, GROWN, 1);
        x.drop(2);
        x.pass(1);
        x.sample(2, 0);
        due("resolved and opened", x.pass(1), 1);
        due("in two steps", x.sent(1, 0), 11);
    }

    private static void opening() {
        AlertEngine x = plain();
        x.parameter(GROUP_INTERVAL, 60);
        due("empty", x.pass(5), 0);
        due("not open", x.group(0, 0), 0);
        due("at once, not after an interval", step(x, 0), 1);
        lastSent(x, 6, 0, OPENED, 1);
        due("open", x.group(0, 0), 1);
        due("not twice", x.pass(1), 0);
        step(x, 1);
        due("at once after it is resolved", step(x, 0), 1);
        lastSent(x, 9, 0, OPENED, 1);
    }

    private static void newAlert() {
        AlertEngine x = plain();
        x.parameter(GROUP_INTERVAL, 1);
        x.sample(1, 0);
        step(x, 0);
        x.drop(1);
        due("one less", x.pass(1), 0);
        x.sample(2, 0);
        due("another one, no more than before", x.pass(1), 1);
        lastSent(x, 3, 0, GROWN, 2);
        x.sample(1, 0);
        due("one that was not in it when it was sent last", x.pass(1), 1);
        lastSent(x, 4, 0, GROWN, 3);
        add(x, SILENCE, "t1@0+99");
        x.sample(3, 0);
        x.label(3, 0, 1);
        due("one that is not active", x.pass(1), 0);
        x.label(3, 0, 0);
        due("it comes through its label", x.pass(1), 1);
        lastSent(x, 6, 0, GROWN, 4);
        due("none is new", x.pass(100), 0);
        AlertEngine last = withRules("=5for0sev0", "=5for0sev0", "=5for0sev0", "=5for0sev0", "=5for0sev0");
        last.parameter(GROUP_INTERVAL, 1);
        last.sample(0, 5);
        last.pass(1);
        for (int series = 1; series < 12; series++) {
            last.sample(series, 5);
            due("five new ones", last.pass(1), 1);
            lastSent(last, series + 1, 0, GROWN, 5 * series + 5);
        }
    }

    private static void groupInterval() {
        for (int interval : new int[] {1, 2, 5, 59, 60}) {
            AlertEngine x = plain();
            x.parameter(GROUP_INTERVAL, interval);
            step(x, 0);
            x.sample(1, 0);
            due("before " + interval, passTo(x, interval), 0);
            due("at " + interval, x.pass(1), 1);
            lastSent(x, 1 + interval, 0, GROWN, 2);
            x.sample(2, 0);
            due("from the kind 1 on, before", passTo(x, 2 * interval), 0);
            due("from the kind 1 on", x.pass(1), 1);
            lastSent(x, 1 + 2 * interval, 0, GROWN, 3);
            passTo(x, 100 + 2 * interval);
            x.sample(3, 0);
            due("long after the interval", x.pass(1), 1);
            lastSent(x, 101 + 2 * interval, 0, GROWN, 4);
        }
        AlertEngine x = withRules("=0for0sev1");
        x.parameter(REPEAT_INTERVAL, 10);
        step(x, 0);
        x.pass(10);
        lastSent(x, 11, 0, REPEATED, 1);
        x.sample(1, 0);
        due("from the kind 2 on, before", x.pass(4), 0);
        due("from the kind 2 on", x.pass(1), 1);
        lastSent(x, 16, 0, GROWN, 2);
        x.drop(0);
        x.drop(1);
        x.pass(1);
        step(x, 0);
        lastSent(x, 18, 0, OPENED, 1);
        x.sample(1, 0);
        due("from the kind 0 on", passTo(x, 22) * 10 + x.pass(1), 1);
    }

    private static void repeatInterval() {
        for (int interval : new int[] {1, 2, 60, 998, 999}) {
            AlertEngine x = plain();
            x.parameter(REPEAT_INTERVAL, interval);
            step(x, 0);
            for (int round = 1; round <= 3; round++) {
                due("before " + interval, passTo(x, round * interval), 0);
                due("at " + interval, x.pass(1), 1);
                lastSent(x, 1 + round * interval, 0, REPEATED, 1);
            }
        }
        AlertEngine x = withRules("=0for0sev1");
        x.parameter(GROUP_INTERVAL, 20);
        x.parameter(REPEAT_INTERVAL, 7);
        step(x, 0);
        x.sample(1, 0);
        due("before", x.pass(6), 0);
        due("ahead of the group interval", x.pass(1), 1);
        lastSent(x, 8, 0, REPEATED, 2);
        due("the new one was in it", x.group(0, 3), 0);
        x.parameter(GROUP_INTERVAL, 5);
        x.sample(2, 0);
        x.pass(5);
        lastSent(x, 13, 0, GROWN, 3);
        due("from the kind 1 on, before", x.pass(6), 0);
        due("from the kind 1 on", x.pass(1), 1);
        lastSent(x, 20, 0, REPEATED, 3);
        x.parameter(REPEAT_INTERVAL, 999);
        x.pass(50);
        x.parameter(REPEAT_INTERVAL, 50);
        due("long due", x.pass(1), 1);
        lastSent(x, 71, 0, REPEATED, 3);
    }

    private static void resolving() {
        AlertEngine x = plain();
        x.parameter(GROUP_INTERVAL, 60);
        step(x, 0);
        due("at once, not after an interval", step(x, 1), 1);
        lastSent(x, 2, 0, RESOLVED, 0);
        due("not open", x.group(0, 0), 0);
        due("not twice", x.pass(100), 0);
        step(x, 0);
        add(x, SILENCE, "t0@104+1");
        due("empty by a silence", x.pass(1), 1);
        lastSent(x, 104, 0, RESOLVED, 0);
        due("opened behind the silence", x.pass(1), 1);
        lastSent(x, 105, 0, OPENED, 1);
        x.label(0, 0, 1);
        due("moved by its label", x.pass(1), 2);
        lastSent(x, 106, 32, OPENED, 1);
        due("the old group", x.sent(1, 1) * 10 + x.sent(1, 2), RESOLVED);
        x.parameter(FLAPS, 2);
        step(x, 1);
        due("flapping", step(x, 0), 0);
        due("one left of it", x.count(6), 0);
    }

    private static void otherGrouping() {
        AlertEngine x = plain();
        x.label(0, 0, 1);
        x.label(0, 1, 1);
        step(x, 0);
        x.sample(1, 0);
        x.pass(1);
        due("open", x.count(6), 2);
        due("parameter", x.parameter(GROUPING, 3), 1);
        due("open", x.count(6), 0);
        due("latest sending", x.group(32, 1), NOTHING);
        due("newcomers", x.group(0, 3), 1);
        x.drop(1);
        due("the old ones are not resolved", x.pass(1), 1);
        lastSent(x, 3, 36, OPENED, 1);
        x.parameter(GROUPING, 1);
        due("and back: never sent", x.group(32, 0), 0);
        due("newcomers", x.group(32, 3), 1);
        due("opened anew", x.pass(1), 1);
        lastSent(x, 4, 32, OPENED, 1);
        x.parameter(GROUPING, 5);
        due("the same key in another grouping", x.group(32, 0), 0);
        due("opened anew", x.pass(1), 1);
        lastSent(x, 5, 32, OPENED, 1);
        due("the notifications stay", x.count(5), 5);
        due("the first of them", x.sent(4, 1), 32);
        x.parameter(GROUPING, 4);
        x.parameter(GROUPING, 5);
        due("there and back between two steps", x.group(32, 0), 0);
        for (int v : outside(0, 7)) {
            x.pass(1);
            due("out of range", x.parameter(GROUPING, v), BAD);
            due("still open", x.group(32, 0), 1);
        }
    }

    private static void sameGrouping() {
        for (int grouping = 0; grouping < 8; grouping++) {
            AlertEngine x = plain();
            x.parameter(GROUPING, grouping);
            step(x, 0);
            x.sample(1, 0);
            x.pass(1);
            due("the same", x.parameter(GROUPING, grouping), grouping);
            due("open", x.group(0, 0), 1);
            due("latest sending", x.group(0, 1), 1);
            due("newcomers", x.group(0, 3), 1);
            due("not opened anew", x.pass(3), 0);
            due("kind 1 in its time", x.pass(1), 1);
            due("other parameters do nothing to them", x.parameter(GROUP_INTERVAL, 7) + x.count(6), 6);
        }
    }

    private static void goneAlerts() {
        AlertEngine x = withRules("=0for0sev1", "=0for0sev2");
        step(x, 0);
        x.remove(RULE, 0);
        due("one is left", x.group(0, 2), 1);
        due("nothing is sent", x.pass(1), 0);
        x.remove(RULE, 1);
        due("all are gone", x.group(0, 2), 0);
        due("still open", x.group(0, 0), 1);
        due("in the next step", x.pass(1), 1);
        lastSent(x, 3, 0, RESOLVED, 0);
        due("not twice", x.pass(99), 0);
    }

    private static void sentNextMinute() {
        AlertEngine x = plain();
        x.pass(9);
        step(x, 0);
        x.label(0, 0, 3);
        due("open and empty", x.group(0, 4), 11);
        due("not open and not empty", x.group(96, 4), 11);
        due("the next minute", x.next(1), 11);
        due("both", x.pass(1), 2);
        x.parameter(GROUPING, 0);
        due("never sent", x.group(0, 4), 12);
        x.parameter(GROUPING, 1);
        due("not open, and empty", x.group(0, 4), NOTHING);
        x.remove(RULE, 0);
        due("empty too", x.group(96, 4), NOTHING);
        AlertEngine y = plain();
        step(y, 0);
        y.remove(RULE, 0);
        due("gone", y.group(0, 4), 2);
    }

    private static void leftAndBack() {
        AlertEngine x = plain();
        x.parameter(GROUP_INTERVAL, 1);
        x.parameter(FLAPS, 20);
        x.sample(1, 0);
        step(x, 0);
        x.sample(1, 1);
        x.pass(1);
        due("left", x.group(0, 2), 1);
        x.sample(1, 0);
        due("came back by its state", x.pass(1), 0);
        due("not new", x.group(0, 3), 0);
        add(x, SILENCE, "h3@4+1");
        x.label(1, 1, 3);
        due("left by a silence", x.pass(1), 0);
        due("left", x.group(0, 2), 1);
        due("came back from a silence", x.pass(1), 0);
        x.label(1, 0, 1);
        due("left by its label", x.group(0, 2), 1);
        x.label(1, 0, 0);
        due("came back by its label", x.pass(1), 0);
        x.parameter(REPEAT_INTERVAL, 8);
        x.drop(1);
        due("sent without it", x.pass(3), 1);
        lastSent(x, 9, 0, REPEATED, 1);
        x.sample(1, 0);
        due("it is new then", x.pass(1), 1);
        lastSent(x, 10, 0, GROWN, 2);
    }

    /** An alert is told by its number: those of a new rule with the number of a removed one have left and come back. */
    private static void ruleOfTheSameNumber() {
        AlertEngine x = withRules("=0for0sev1", "=0for0sev2");
        step(x, 0);
        lastSent(x, 1, 0, OPENED, 2);
        x.remove(RULE, 1);
        due("gone", x.group(0, 2), 1);
        due("the same number", add(x, RULE, "<9for2sev3"), 1);
        due("not firing yet", x.pass(2), 0);
        due("firing again", x.pass(1), 0);
        due("both", x.group(0, 2), 2);
        due("none of them is new", x.group(0, 3), 0);
        due("not before the repeat", x.group(0, 4), 61);
        due("another number", add(x, RULE, "=0for0sev0"), 2);
        x.pass(1);
        due("its alert is new", x.group(0, 3), 1);
        due("after the group interval", x.pass(1), 1);
        lastSent(x, 6, 0, GROWN, 3);
        due("with the severity of the new rule", x.sent(0, 4), 3);
        AlertEngine y = withRules("=0for0sev1");
        step(y, 0);
        y.remove(RULE, 0);
        due("the same number", add(y, RULE, "=0for1sev1"), 0);
        due("resolved while it is pending", y.pass(1), 1);
        lastSent(y, 2, 0, RESOLVED, 0);
        due("opened anew", y.pass(1), 1);
        lastSent(y, 3, 0, OPENED, 1);
    }

    private static void passAnswers() {
        AlertEngine x = twelveGroups();
        x.parameter(REPEAT_INTERVAL, 1);
        due("twelve in a minute", x.pass(1), 12);
        due("twelve in each minute", x.pass(100), 1200);
        due("all", x.count(5), 1212);
        for (int series = 0; series < 12; series++) x.drop(series);
        due("resolved once", x.pass(100), 12);
        due("none", x.pass(100), 0);
        due("all", x.count(5), 1224);
    }

    /** The first and the last key, each open while the other one is not. */
    private static void openOrNot() {
        AlertEngine x = plain();
        x.parameter(GROUPING, 7);
        x.label(1, 0, 3);
        x.label(1, 1, 7);
        x.label(1, 2, 3);
        step(x, 0);
        due("key 0", x.group(0, 0) * 10 + x.group(127, 0), 10);
        x.sample(1, 0);
        step(x, 1);
        due("key 127", x.group(0, 0) * 10 + x.group(127, 0), 1);
        for (int key = 1; key < 127; key++) due("key " + key, x.group(key, 0), 0);
    }

    private static void noneToSixty() {
        AlertEngine x = withRules("=0for0sev0", "=0for0sev0", "=0for0sev0", "=0for0sev0", "=0for0sev0");
        due("none", x.group(0, 2), 0);
        for (int series = 0; series < 12; series++) {
            x.sample(series, 0);
            x.pass(1);
            due("active", x.group(0, 2), 5 * series + 5);
        }
        due("none of another key", x.group(127, 2), 0);
        for (int rule = 0; rule < 5; rule++) {
            x.remove(RULE, rule);
            due("active", x.group(0, 2), 48 - 12 * rule);
        }
    }

    private static void latestSending() {
        AlertEngine x = withRules("=0for0sev1");
        x.parameter(REPEAT_INTERVAL, 10);
        due("never", x.group(0, 1), NOTHING);
        x.pass(2);
        step(x, 0);
        due("kind 0", x.group(0, 1), 3);
        x.sample(1, 0);
        x.pass(4);
        due("nothing sent", x.group(0, 1), 3);
        x.pass(1);
        due("kind 1", x.group(0, 1), 8);
        x.pass(10);
        due("kind 2", x.group(0, 1), 18);
        x.drop(0);
        x.drop(1);
        due("empty", x.group(0, 1), 18);
        x.pass(1);
        due("kind 3", x.group(0, 1), NOTHING);
        step(x, 0);
        due("kind 0 again", x.group(0, 1), 20);
        x.parameter(GROUPING, 0);
        due("another grouping", x.group(0, 1), NOTHING);
    }

    private static void newcomers() {
        AlertEngine x = plain();
        x.parameter(GROUP_INTERVAL, 60);
        due("none at all", x.group(0, 3), 0);
        step(x, 0);
        due("sent", x.group(0, 3), 0);
        for (int series = 1; series < 12; series++) {
            x.sample(series, 0);
            x.pass(1);
            due("newcomers", x.group(0, 3), series);
            due("members", x.group(0, 2), series + 1);
        }
        x.drop(0);
        x.drop(11);
        x.pass(1);
        due("one of each left", x.group(0, 3), 10);
        x.parameter(GROUPING, 0);
        due("all if it is not open", x.group(0, 3), 10);
        x.pass(1);
        due("sent", x.group(0, 3), 0);
        x.remove(RULE, 0);
        due("empty and open", x.group(0, 3), 0);
    }

    private static void nextSending() {
        AlertEngine x = withRules("=0for0sev1", "=0for9sev1");
        due("never", x.group(0, 4), NOTHING);
        step(x, 0);
        due("the repeat, though another alert will be added", x.group(0, 4), 61);
        due("which is told", x.next(100), 10);
        x.remove(RULE, 1);
        add(x, SILENCE, "t0@20+5");
        due("the repeat, though a silence will begin", x.group(0, 4), 61);
        due("which resolves it", x.next(100), 20);
        x.sample(1, 0);
        x.pass(1);
        due("a new one", x.group(0, 4), 6);
        x.parameter(GROUP_INTERVAL, 60);
        due("both at once", x.group(0, 4), 61);
        x.parameter(REPEAT_INTERVAL, 59);
        due("the repeat first", x.group(0, 4), 60);
        x.parameter(REPEAT_INTERVAL, 999);
        due("the group interval first", x.group(0, 4), 61);
        x.parameter(GROUP_INTERVAL, 1);
        due("due now", x.group(0, 4), 3);
        x.pass(1);
        x.pass(1);
        due("without a new one", x.group(0, 4), 1002);
        x.parameter(REPEAT_INTERVAL, 1);
        due("due now", x.group(0, 4), 5);
        x.parameter(REPEAT_INTERVAL, 2);
        due("in the next minute", x.group(0, 4), 5);
        x.parameter(REPEAT_INTERVAL, 3);
        due("a minute later", x.group(0, 4), 6);
        due("a group that never was", x.group(127, 4), NOTHING);
    }

    private static void indexesOfKeys() {
        AlertEngine x = twelveGroups();
        due("before the first step", x.key(-1), 0);
        due("none", x.key(0), NONE);
        x.pass(1);
        due("number", x.key(-1), 12);
        int[] keys = {0, 1, 4, 5, 8, 9, 12, 13, 16, 20, 24, 28};
        for (int i = 0; i < 12; i++) due("key " + i, x.key(i), keys[i]);
        due("behind the last", x.key(12), NONE);
        add(x, SILENCE, "h0@0+9");
        due("without the empty ones, though open", x.key(-1), 10);
        due("open", x.count(6), 12);
        for (int i = 0; i < 10; i++) due("key " + i, x.key(i), keys[i + 2]);
        due("behind the last", x.key(10), NONE);
        x.parameter(GROUPING, 0);
        due("one group", x.key(-1), 1);
        due("of the key 0", x.key(0), 0);
        due("behind it", x.key(1), NONE);
    }

    private static void thirtyNotifications() {
        AlertEngine x = plain();
        x.parameter(REPEAT_INTERVAL, 1);
        x.sample(0, 0);
        for (int sent = 1; sent <= 65; sent++) {
            x.pass(1);
            int kept = Math.min(30, sent);
            due("the latest", x.sent(0, 0), sent);
            due("the oldest of " + sent, x.sent(kept - 1, 0), sent - kept + 1);
            due("one older than it", x.sent(kept, 0), NONE);
        }
        for (int i = 0; i < 30; i++) due("each", x.sent(i, 0), 65 - i);
        for (int i : outside(0, 29)) due("notification " + i, x.sent(i, 0), NONE);
        AlertEngine many = twelveGroups();
        many.parameter(REPEAT_INTERVAL, 1);
        many.pass(3);
        for (int i = 0; i < 30; i++) due("of minute", many.sent(i, 0), 3 - i / 12);
        for (int i = 0; i < 30; i++) due("the same key each minute", many.sent(i, 1), many.sent(i % 12, 1));
        due("the others are not kept", many.sent(30, 0), NONE);
    }

    private static void sizesAndSeverities() {
        AlertEngine x = withRules("=0for0sev0", ">0for0sev2", ">1for0sev3");
        x.parameter(GROUP_INTERVAL, 1);
        x.parameter(REPEAT_INTERVAL, 3);
        int[][] due = {{0, OPENED, 1, 0}, {1, GROWN, 1, 2}, {2, GROWN, 2, 3}, {2, GROWN, 2, 3}, {2, GROWN, 2, 3},
            {2, REPEATED, 2, 3}, {1, REPEATED, 2, 3}, {1, REPEATED, 2, 3}, {1, REPEATED, 1, 2}, {-1, RESOLVED, 0, NOTHING}};
        for (int[] row : due) {
            step(x, row[0]);
            for (int what = 2; what <= 4; what++) due("number " + what + " at " + x.count(0), x.sent(0, what), row[what - 1]);
        }
        AlertEngine all = withRules("=0for0sev3", "=0for0sev0", "=0for0sev0", "=0for0sev0", "=0for0sev0");
        for (int series = 0; series < 12; series++) all.sample(series, 0);
        add(all, SILENCE, "s3@2+1");
        all.pass(1);
        due("sixty", all.sent(0, 3), 60);
        due("greatest", all.sent(0, 4), 3);
        all.parameter(GROUPING, 0);
        all.pass(1);
        due("without the silenced ones", all.sent(0, 3), 48);
        due("greatest", all.sent(0, 4), 0);
    }

    private static void allNotifications() {
        AlertEngine x = twelveGroups();
        due("none", x.count(5) + x.count(6), 0);
        x.parameter(REPEAT_INTERVAL, 1);
        for (int minute = 1; minute <= 5; minute++) {
            x.pass(1);
            due("all", x.count(5), 12 * minute);
            due("open", x.count(6), 12);
        }
        for (int series = 0; series < 12; series++) {
            x.drop(series);
            x.pass(1);
            due("open", x.count(6), 11 - series);
        }
        due("twelve in each step, one less after each that was resolved", x.count(5), 60 + 78);
    }

    private static void aheadMinutes() {
        for (int wait : new int[] {0, 1, 98, 99, 100}) {
            AlertEngine x = withRules("=0for" + wait + "sev0");
            x.sample(0, 0);
            due("the last minute but one", wait == 0 ? 0 : x.ahead(wait), 0);
            due("its minute", wait == 100 ? 1 : x.ahead(wait + 1), 1);
            due("1 minute", x.ahead(1), wait == 0 ? 1 : 0);
            due("100 minutes", x.ahead(100), wait == 0 || wait == 1 ? 2 : wait < 100 ? 1 : 0);
        }
        AlertEngine x = twelveGroups();
        x.parameter(REPEAT_INTERVAL, 1);
        due("twelve each minute", x.ahead(100), 1200);
        due("nothing was sent", x.count(5), 0);
    }

    /** An engine in which waits, silences, flapping, an inhibition and repeats come in the next minutes. */
    private static AlertEngine eventful() {
        AlertEngine x = withRules("=0for0sev1", "=0for7sev3", "!t0:=0for20sev0");
        x.parameter(REPEAT_INTERVAL, 13);
        add(x, SILENCE, "t0@9+8");
        add(x, SILENCE, "s3,!t1@30+9");
        add(x, INHIBITION, "s3>s1,!t2/t");
        for (int series = 0; series < 6; series++) x.label(series, 0, series % 3);
        for (int i = 0; i < 5; i++) {
            x.sample(2, i % 2);
            x.pass(1);
        }
        for (int series = 0; series < 5; series++) x.sample(series, 0);
        return x;
    }

    private static void aheadLikePass() {
        for (int n = 1; n <= 100; n++) {
            AlertEngine x = eventful();
            due("ahead " + n, x.ahead(n), eventful().pass(n));
            if (n % 10 == 0) due("pass after it", x.pass(n), x.count(5) - eventful().count(5));
        }
        AlertEngine x = eventful();
        due("not none", x.ahead(100) > 20 ? 1 : 0, 1);
    }

    private static void nextMinutes() {
        for (int wait : new int[] {0, 1, 98, 99, 100}) {
            AlertEngine x = withRules("=0for" + wait + "sev0");
            x.pass(7);
            x.sample(0, 0);
            for (int n : new int[] {1, 2, 98, 99, 100}) {
                due("wait " + wait + ", ahead " + n, x.next(n), wait + 1 <= n ? 8 + wait : NOTHING);
            }
        }
    }

    private static void nextLikePass() {
        AlertEngine x = eventful();
        for (int round = 0; round < 40; round++) {
            int next = x.next(100);
            int before = x.count(5);
            for (int minute = x.count(0) + 1; minute < next; minute++) due("none before " + next, x.pass(1), 0);
            due("at " + next, x.pass(1) > 0 ? 1 : 0, 1);
            due("minute", x.sent(0, 0), next);
            due("notifications", x.count(5) > before ? 1 : 0, 1);
            if (x.count(0) > 60) break;
        }
        for (int series = 0; series < 12; series++) x.drop(series);
        x.pass(1);
        due("all resolved", x.next(100), NOTHING);
        due("an engine without anything", new AlertEngine().next(100), NOTHING);
    }

    private static void savedNotifications() {
        AlertEngine x = twelveGroups();
        x.parameter(REPEAT_INTERVAL, 1);
        add(x, SILENCE, "h0@0+0");
        add(x, SILENCE, "t0@0+200");
        due("all of 100 minutes", x.saved(1, 100), 2200);
        due("all of 1 minute", x.saved(1, 1), 1012);
        due("one that never suppresses", x.saved(0, 100), 1000);
        AlertEngine over = twelveGroups();
        over.pass(9);
        add(over, SILENCE, "t0@0+10");
        due("one that is over", over.saved(0, 100), 1000);
        add(over, SILENCE, "t0@10+1");
        due("resolved and opened by it", over.ahead(2), 24);
        due("nothing without it", over.saved(1, 2), 1000 - 24);
        due("in the first minute", over.saved(1, 1), 1000 - 12);
        AlertEngine twice = twelveGroups();
        add(twice, SILENCE, "t0@0+50");
        add(twice, SILENCE, "t0@0+60");
        due("the other one suppresses them too", twice.saved(0, 50), 1000);
        due("no longer at 50", twice.saved(1, 50), 1012);
        due("up to 49", twice.saved(1, 49), 1000);
        due("opened at 60", twice.saved(1, 60), 1000);
        due("the silences stay", twice.count(2) * 100 + twice.pass(59), 200);
    }

    private static void savedMinutes() {
        for (int wait : new int[] {0, 1, 98, 99, 100}) {
            AlertEngine x = withRules("=0for" + wait + "sev0");
            x.parameter(REPEAT_INTERVAL, 999);
            add(x, SILENCE, "t0@0+200");
            x.sample(0, 0);
            for (int n : new int[] {1, 2, 98, 99, 100}) due("wait " + wait + ", " + n, x.saved(0, n), wait < n ? 1001 : 1000);
            for (int n : outside(1, 100)) due("n " + n, x.saved(0, n), BAD);
        }
    }

    private static void savedLikeRemoval() {
        for (int n = 1; n <= 100; n++) {
            for (int silence = 0; silence < 2; silence++) {
                AlertEngine without = eventful();
                without.remove(SILENCE, silence);
                AlertEngine x = eventful();
                due("saved " + n, x.saved(silence, n), without.ahead(n) - x.ahead(n) + 1000);
            }
        }
    }
}
