/** The boundary cases of the alerts: their conditions, states, transitions and suppression. */
public final class AlertEdgeTests extends Edges {
    private static final long ALL = (1L << 60) - 1;

    private AlertEdgeTests() {
    }

    public static void main(String[] args) {
        conditionsAndSteps();
        suppression();
        questions();
        Check.end("AlertEdgeTests");
    }

    private static void conditionsAndSteps() {
        holds(DESCRIPTION, "The time is a minute, 0 at first.", AlertEdgeTests::timeAtFirst);
        holds(DESCRIPTION, "the engine makes one step for each minute, after the time has become this minute", AlertEdgeTests::oneStepEachMinute);
        holds(DESCRIPTION, "the alert of rule r and series s has the number 12 * r + s", AlertEdgeTests::numbersOfAlerts);
        holds(DESCRIPTION, "It has the labels of its series and the severity of its rule.", AlertEdgeTests::labelsOfAlerts);
        holds(DESCRIPTION, "is the digit, with ! if it is not; a sequence of matchers matches if all of them do", AlertEdgeTests::matching);
        holds(DESCRIPTION, "A matcher matches an alert if its team (t), host (h), zone (z) or severity (s) is the digit", AlertEdgeTests::labelsKeptApart);
        holds(DESCRIPTION, "The condition of an alert holds if the rule exists, the series has a value, the matchers of the rule, if any, match",
            AlertEdgeTests::conditionParts);
        holds(DESCRIPTION, "the value is less than, greater than, or equal to the number of the rule", AlertEdgeTests::comparisons);
        holds(DESCRIPTION, "At first, all alerts are inactive.", AlertEdgeTests::inactiveAtFirst);
        holds(DESCRIPTION, "becomes pending, with t as the minute since which it is, if it was inactive", AlertEdgeTests::pendingSince);
        holds(DESCRIPTION, "t minus this minute is at least the first number after \"for\", it becomes firing, with t as the minute since which it is",
            AlertEdgeTests::waits);
        holds(DESCRIPTION, "An alert whose condition does not hold becomes inactive.", AlertEdgeTests::becomingInactive);
        holds(DESCRIPTION, "Becoming firing, and becoming inactive after firing, is a transition at minute t.", AlertEdgeTests::transitions);
        holds(DESCRIPTION, "Then the notifications are sent.", AlertEdgeTests::sentInTheSameStep);
        holds(DESCRIPTION, "its alerts become inactive, without a transition, and their transitions are forgotten", AlertEdgeTests::removedRule);
    }

    private static void suppression() {
        holds(DESCRIPTION, "if a is not greater than t and t is less than a + b", AlertEdgeTests::silenceTimes);
        holds(DESCRIPTION, "a silence with the numbers a and b suppresses the alerts that its matchers match", AlertEdgeTests::silenceMatchers);
        holds(DESCRIPTION, "There are at most 5 rules, 6 silences and 4 inhibitions", AlertEdgeTests::eachSilence);
        holds(DESCRIPTION, "There are at most 5 rules, 6 silences and 4 inhibitions", AlertEdgeTests::eachInhibition);
        holds(DESCRIPTION, "A firing alert is inhibited by another firing alert", AlertEdgeTests::anotherAlert);
        holds(DESCRIPTION, "whose first matchers match the other one and whose second matchers match it", AlertEdgeTests::firstAndSecond);
        holds(DESCRIPTION, "both have the same labels for all letters after the \"/\"", AlertEdgeTests::sameLabels);
        holds(DESCRIPTION, "whether the other one is suppressed does not matter", AlertEdgeTests::suppressedInhibitor);
        holds(DESCRIPTION, "An alert that is not firing is not inhibited, and nothing inhibits it", AlertEdgeTests::notFiringNotInhibited);
        holds(DESCRIPTION, "at least as many of its transitions as the limit of flaps", AlertEdgeTests::flapLimit);
        holds(DESCRIPTION, "An alert is flapping if", AlertEdgeTests::flappingOfOneRule);
        holds(DESCRIPTION, "are at minutes greater than t minus the window", AlertEdgeTests::window);
        holds(DESCRIPTION, "Only the latest 20 transitions of an alert are remembered.", AlertEdgeTests::twentyTransitions);
        holds(DESCRIPTION, "whether it is flapping is told by its transitions alone", AlertEdgeTests::flappingWithoutFiring);
        holds(DESCRIPTION, "An alert is active if it is firing, and neither silenced nor inhibited nor flapping.", AlertEdgeTests::active);
    }

    private static void questions() {
        holds(DESCRIPTION, "with the present labels, rules, silences, inhibitions and parameters", AlertEdgeTests::presentSetup);
        holds(DESCRIPTION, "with the states of alerts after the latest step", AlertEdgeTests::statesAfterStep);
        holds(DESCRIPTION, "Sets of alerts are longs, with bit n for the alert n.", AlertEdgeTests::allSixty);
        holds(10, "0 the state: 0 inactive, 1 pending, 2 firing", AlertEdgeTests::stateNumbers);
        holds(10, "1 the minute since which it is pending or firing, -5 if it is inactive", AlertEdgeTests::sinceNumbers);
        holds(10, "2 whether a silence suppresses it now (1 or 0), whatever its state", AlertEdgeTests::silencedInAnyState);
        holds(10, "3 whether it is inhibited; 4 whether it is flapping; 5 whether it is active", AlertEdgeTests::propertiesAndSets);
        holds(10, "6 the number of its transitions that count for flapping now", AlertEdgeTests::countingTransitions);
        holds(10, "8 the lowest silence that suppresses it now, -5 if there is none", AlertEdgeTests::lowestSilence);
        holds(10, "9 the lowest alert that inhibits it, -5 if there is none", AlertEdgeTests::lowestInhibitor);
        holds(11, "2, 3, 4 the firing ones that are silenced, inhibited, flapping; 5 the active ones; 6 those whose conditions hold",
            AlertEdgeTests::setsOfFiringOnes);
        holds(20, "4 the series with values", AlertEdgeTests::seriesWithValues);
        holds(20, "7 the greatest severity of an active alert, -5 if there is none", AlertEdgeTests::greatestSeverity);
        holds(20, "8 the silences that suppress a firing alert now", AlertEdgeTests::silencesInUse);
    }

    private static void timeAtFirst() {
        AlertEngine x = withRules("=0for0sev0");
        due("count", x.count(0), 0);
        due("image", x.image(), 0);
        add(x, SILENCE, "t0@0+1");
        due("a silence of minute 0 only", x.alert(0, 0, 2), 1);
        x.pass(1);
        due("count", x.count(0), 1);
        due("minute 1", x.alert(0, 0, 2), 0);
    }

    private static void oneStepEachMinute() {
        for (int n = 1; n <= 4; n++) {
            AlertEngine x = withRules("=0for0sev0", "=0for2sev0");
            x.parameter(REPEAT_INTERVAL, 1);
            x.sample(0, 0);
            due("a notification each minute", x.pass(n), n);
            due("the first step is at minute 1", x.alert(0, 0, 1), 1);
            due("the first notification too", x.sent(n - 1, 0), 1);
            due("the last one is at the present minute", x.sent(0, 0), n);
            due("pending at 1, firing at 3", x.alert(1, 0, 1), n < 3 ? 1 : 3);
        }
        AlertEngine all = withRules("=0for99sev0");
        all.sample(0, 0);
        all.pass(100);
        due("pending at 1, firing at 100", all.alert(0, 0, 1), 100);
    }

    private static void numbersOfAlerts() {
        AlertEngine x = withRules("=0for0sev0", "=1for0sev0", "=2for0sev0", "=3for0sev0", "=4for0sev0");
        for (int rule = 0; rule < 5; rule++) {
            for (int series = 0; series < 12; series++) {
                x.sample(series, rule);
                x.pass(1);
                long only = 1L << 12 * rule + series;
                due("condition", x.alerts(6), only);
                due("firing", x.alerts(1), only);
                due("state", x.alert(rule, series, 0), 2);
                x.drop(series);
            }
        }
    }

    private static void labelsOfAlerts() {
        AlertEngine x = withRules("=0for0sev0", "=0for0sev1", "=0for0sev2", "=0for0sev3");
        x.parameter(GROUPING, 7);
        x.label(11, 0, 3);
        x.label(11, 1, 7);
        x.label(11, 2, 3);
        for (int rule = 0; rule < 4; rule++) {
            due("key of series 11", x.alert(rule, 11, 7), 127);
            due("key of series 10", x.alert(rule, 10, 7), 0);
            AlertEngine y = withRules("=0for0sev0", "=0for0sev1", "=0for0sev2", "=0for0sev3");
            add(y, SILENCE, "s" + rule + "@0+9");
            add(y, SILENCE, "!s" + rule + "@0+9");
            for (int other = 0; other < 4; other++) due("severity", y.alert(other, 5, 8), other == rule ? 0 : 1);
        }
    }

    /** All matchers of one label, plain and with !, and the combinations of two of them. */
    private static void matching() {
        String letters = "thz";
        for (int label = 0; label < 3; label++) {
            char letter = letters.charAt(label);
            for (int digit = 0; digit <= (label == 1 ? 7 : 3); digit++) {
                AlertEngine x = withRules("=0for0sev1");
                add(x, SILENCE, letter + "" + digit + "@0+1");
                add(x, SILENCE, "!" + letter + digit + "@0+1");
                for (int v = 0; v <= (label == 1 ? 7 : 3); v++) {
                    x.label(2, label, v);
                    due("value " + v + " of " + letter + digit, x.alert(0, 2, 8), v == digit ? 0 : 1);
                }
            }
        }
        String[] pairs = {"t1,h1", "t1,!h1", "!t1,h1", "!t1,!h1", "t1,t2", "!t1,!t2", "t1,!t1", "t1,t1"};
        for (String pair : pairs) {
            AlertEngine x = withRules(pair + ":=0for0sev0");
            x.sample(0, 0);
            for (int team = 0; team < 4; team++) {
                for (int host = 0; host < 3; host++) {
                    x.label(0, 0, team);
                    x.label(0, 1, host);
                    boolean want = one(pair.split(",")[0], team, host) && one(pair.split(",")[1], team, host);
                    due(pair + " for " + team + ", " + host, x.alerts(6), want ? 1 : 0);
                }
            }
        }
    }

    private static boolean one(String matcher, int team, int host) {
        int digit = matcher.charAt(matcher.length() - 1) - '0';
        int value = matcher.contains("t") ? team : host;
        return matcher.startsWith("!") != (value == digit);
    }

    /** Every matcher with every combination of labels and severities. */
    private static void labelsKeptApart() {
        for (String matcher : "t0 t1 t2 t3 h0 h1 h2 h3 h4 h5 h6 h7 z0 z1 z2 z3 s0 s1 s2 s3".split(" ")) {
            for (int team = 0; team < 4; team++) matchedBy(matcher, team);
        }
    }

    private static void matchedBy(String matcher, int team) {
        AlertEngine x = withRules("=0for0sev0", "=0for0sev1", "=0for0sev2", "=0for0sev3");
        add(x, SILENCE, matcher + "@0+1");
        x.label(9, 0, team);
        for (int host = 0; host < 8; host++) {
            x.label(9, 1, host);
            for (int zone = 0; zone < 4; zone++) {
                x.label(9, 2, zone);
                for (int severity = 0; severity < 4; severity++) {
                    int value = new int[] {team, host, zone, severity}["thzs".indexOf(matcher.charAt(0))];
                    due(matcher + " for t" + team + " h" + host + " z" + zone + " s" + severity,
                        x.alert(severity, 9, 2), matcher.charAt(1) - '0' == value ? 1 : 0);
                }
            }
        }
    }

    private static void conditionParts() {
        AlertEngine x = withRules("=0for0sev0", "t1:=0for0sev0");
        due("no value", x.alerts(6), 0);
        x.sample(0, 0);
        due("no matchers", x.alerts(6), 1);
        x.label(0, 0, 1);
        due("matchers that match", x.alerts(6), 1 | 1 << 12);
        x.remove(RULE, 0);
        due("no rule", x.alerts(6), 1 << 12);
        x.drop(0);
        due("no value again", x.alerts(6), 0);
        x.sample(0, 1);
        due("another value", x.alert(1, 0, 10), 0);
    }

    private static void comparisons() {
        int[] bounds = {-9999, -1000, -1, 0, 1, 1000, 9999};
        for (int bound : bounds) {
            AlertEngine x = withRules("<" + bound + "for0sev0", ">" + bound + "for0sev0", "=" + bound + "for0sev0");
            x.sample(0, bound - 1);
            x.sample(1, bound);
            x.sample(2, bound + 1);
            x.sample(3, -bound);
            due("less than " + bound, x.alerts(6) & 7, 1);
            due("greater than " + bound, x.alerts(6) >> 12 & 7, 4);
            due("equal to " + bound, x.alerts(6) >> 24 & 7, 2);
            due("minus " + bound, x.alert(bound < 0 ? 1 : bound == 0 ? 2 : 0, 3, 10), 1);
        }
    }

    private static void inactiveAtFirst() {
        AlertEngine x = withRules("=0for0sev0", "=0for0sev0", "=0for0sev0", "=0for0sev0", "=0for0sev0");
        for (int series = 0; series < 12; series++) x.sample(series, 0);
        due("conditions", x.alerts(6), ALL);
        due("pending", x.alerts(0), 0);
        due("firing", x.alerts(1), 0);
        for (int i = 0; i < 60; i++) due("transitions", x.alert(i / 12, i % 12, 6), 0);
        x.pass(1);
        due("after the first step", x.alerts(1), ALL);
    }

    private static void pendingSince() {
        AlertEngine x = withRules("=0for3sev0");
        x.pass(4);
        x.sample(0, 0);
        for (int minute = 5; minute <= 7; minute++) {
            x.pass(1);
            due("the minute of the first step stays", x.alert(0, 0, 1), 5);
            due("pending", x.alert(0, 0, 0), 1);
            x.drop(0);
            due("gone between steps", x.alert(0, 0, 10), 0);
            x.sample(0, 0);
        }
        x.pass(1);
        due("firing", x.alert(0, 0, 1), 8);
        x.pass(3);
        due("a firing one does not become pending", x.alert(0, 0, 1), 8);
        step(x, 1);
        step(x, 0);
        due("inactive between", x.alert(0, 0, 1), 13);
        due("pending anew", x.alert(0, 0, 0), 1);
    }

    private static void waits() {
        int[] numbers = {0, 1, 2, 9, 10, 99, 100, 999, 9999};
        for (int number : numbers) {
            AlertEngine x = withRules("=0for" + number + "sev0", "=0for" + number + "sev1");
            x.pass(6);
            x.sample(0, 0);
            x.sample(11, 0);
            if (number > 0) {
                passTo(x, 6 + number);
                due("pending up to the last minute for " + number, x.alerts(0), 0x801801);
                due("since", x.alert(1, 11, 1), 7);
                due("no transition", x.alert(1, 11, 6), 0);
            }
            passTo(x, 7 + number);
            due("firing for " + number, x.alerts(1), 0x801801);
            due("none is pending", x.alerts(0), 0);
            due("since", x.alert(1, 11, 1), 7 + number);
            due("transition", x.alert(1, 11, 6), 1);
        }
    }

    private static void becomingInactive() {
        AlertEngine x = withRules("=0for0sev0", "=0for9sev0", "t0:=0for0sev0");
        for (int round = 0; round < 4; round++) {
            x.sample(0, 0);
            x.sample(11, 0);
            x.pass(1);
            due("firing", x.alerts(1), 0x801000801L);
            due("pending", x.alerts(0), 0x801000);
            if (round == 0) x.drop(11);
            if (round == 1) x.sample(11, 1);
            if (round == 2) x.sample(11, MIN);
            if (round < 3) x.pass(1);
            if (round < 3) due("those of series 11 not", x.alerts(0) | x.alerts(1), 0x001001001L);
        }
        x.label(0, 0, 1);
        x.pass(1);
        due("the matchers of its rule do not match", x.alerts(1), 0x800000801L);
    }

    private static void transitions() {
        AlertEngine x = withRules("=0for1sev0", "=0for0sev0");
        x.parameter(WINDOW, 1);
        int[][] due = {{0, 0, 1}, {0, 1, 0}, {0, 0, 0}, {1, 1, 1}, {1, 0, 0}, {0, 0, 1}, {1, 0, 1}, {0, 0, 1}, {0, 1, 0}};
        for (int[] row : due) {
            step(x, row[0]);
            due("after a wait, at " + x.count(0), x.alert(0, 0, 6), row[1]);
            due("without a wait, at " + x.count(0), x.alert(1, 0, 6), row[2]);
        }
        x.parameter(WINDOW, 999);
        due("pending at 6 and inactive again is none", x.alert(0, 0, 6), 3);
        due("all", x.alert(1, 0, 6), 5);
    }

    private static void sentInTheSameStep() {
        AlertEngine x = withRules("=0for0sev0");
        x.sample(0, 0);
        due("in the step in which it becomes firing", x.pass(1), 1);
        due("minute", x.sent(0, 0), x.alert(0, 0, 1));
        x.sample(0, 1);
        due("in the step in which it becomes inactive", x.pass(1), 1);
        due("kind", x.sent(0, 2), 3);
    }

    private static void removedRule() {
        for (int gone = 0; gone < 5; gone++) {
            AlertEngine x = withRules("=0for0sev0", "=0for0sev0", "=0for0sev0", "=0for0sev0", "=0for0sev0");
            for (int series = 0; series < 12; series++) x.sample(series, 0);
            x.pass(1);
            long left = ALL & ~(0xFFFL << 12 * gone);
            x.remove(RULE, gone);
            due("firing at once", x.alerts(1), left);
            due("conditions", x.alerts(6), left);
            add(x, RULE, "=0for5sev0");
            for (int i = 0; i < 60; i++) {
                boolean stays = i / 12 != gone;
                due("transitions of " + i, x.alert(i / 12, i % 12, 6), stays ? 1 : 0);
                due("state of " + i, x.alert(i / 12, i % 12, 0), stays ? 2 : 0);
                due("since of " + i, x.alert(i / 12, i % 12, 1), stays ? 1 : NOTHING);
            }
            x.pass(1);
            due("pending anew", x.alerts(0), 0xFFFL << 12 * gone);
            x.remove(RULE, gone);
            due("pending at once", x.alerts(0), 0);
        }
    }

    private static void silenceTimes() {
        int[][] times = {{0, 0}, {0, 1}, {0, 2}, {1, 0}, {1, 1}, {3, 0}, {3, 1}, {3, 4}, {9, 9}};
        for (int[] time : times) {
            AlertEngine x = withRules("=0for0sev0");
            add(x, SILENCE, "t0@" + time[0] + "+" + time[1]);
            for (int minute = 0; minute <= 20; minute++) {
                boolean on = time[0] <= minute && minute < time[0] + time[1];
                due(time[0] + "+" + time[1] + " at " + minute, x.alert(0, 0, 2), on ? 1 : 0);
                x.pass(1);
            }
        }
        AlertEngine x = withRules("=0for0sev0");
        add(x, SILENCE, "t0@9999+9999");
        int[] minutes = {9998, 9999, 19997, 19998};
        for (int minute : minutes) {
            passTo(x, minute);
            due("at " + minute, x.alert(0, 0, 2), minute == 9999 || minute == 19997 ? 1 : 0);
        }
    }

    /** Each of the six silences, the five others being of another team. */
    private static void eachSilence() {
        for (int one = 0; one < 6; one++) {
            AlertEngine x = withRules("=0for0sev0");
            for (int i = 0; i < 6; i++) due("add", add(x, SILENCE, i == one ? "t0@0+9" : "t1@0+9"), i);
            step(x, 0);
            due("whether " + one, x.alert(0, 0, 2), 1);
            due("which " + one, x.alert(0, 0, 8), one);
            due("firing and silenced by " + one, x.alerts(2), 1);
            due("in use " + one, x.count(8), 1);
            due("not active by " + one, x.alerts(5), 0);
        }
    }

    /** Each of the four inhibitions, the three others having no alert that matches. */
    private static void eachInhibition() {
        for (int one = 0; one < 4; one++) {
            AlertEngine x = withRules("=0for0sev0", "=0for0sev1");
            for (int i = 0; i < 4; i++) due("add", add(x, INHIBITION, i == one ? "s0>s1/" : "s2>s3/"), i);
            step(x, 0);
            due("whether " + one, x.alert(1, 0, 3), 1);
            due("by " + one, x.alert(1, 0, 9), 0);
            due("inhibited by " + one, x.alerts(3), 1 << 12);
            due("not active by " + one, x.alerts(5), 1);
        }
    }

    /** Alerts of the same series, of which only those of one rule flap. */
    private static void flappingOfOneRule() {
        for (int one = 0; one < 5; one++) {
            AlertEngine x = new AlertEngine();
            for (int rule = 0; rule < 5; rule++) add(x, RULE, rule == one ? "=1for0sev0" : ">0for0sev0");
            for (int i = 0; i < 4; i++) {
                x.sample(11, 2 - (i + 1) % 2);
                x.pass(1);
            }
            x.sample(11, 1);
            x.pass(1);
            for (int rule = 0; rule < 5; rule++) due("flapping", x.alert(rule, 11, 4), rule == one ? 1 : 0);
            due("set", x.alerts(4), 1L << 12 * one + 11);
            due("the other series", x.alert(one, 0, 4), 0);
        }
    }

    private static void silenceMatchers() {
        AlertEngine x = withRules("=0for0sev0", "=0for0sev3");
        add(x, SILENCE, "s3,!z1@0+9");
        add(x, SILENCE, "h7,t3@0+9");
        for (int series : new int[] {0, 1, 11}) x.sample(series, 0);
        x.label(1, 2, 1);
        x.label(11, 0, 3);
        x.label(11, 1, 7);
        x.pass(1);
        due("silenced", x.alerts(2), 0x801800);
        due("active", x.alerts(5), 0x002003);
        x.label(11, 0, 2);
        due("another team", x.alerts(2), 0x801000);
    }

    private static void anotherAlert() {
        AlertEngine x = withRules("=0for0sev1", "=0for0sev1");
        add(x, INHIBITION, "s1>s1/");
        x.sample(4, 0);
        x.remove(RULE, 1);
        x.pass(1);
        due("not itself", x.alerts(3), 0);
        due("nothing inhibits it", x.alert(0, 4, 9), NOTHING);
        add(x, RULE, "=0for1sev1");
        x.pass(1);
        due("not a pending one", x.alerts(3), 0);
        x.pass(1);
        due("each the other one", x.alerts(3), 0x010010);
        x.sample(5, 0);
        x.pass(1);
        due("of any series", x.alerts(3), 0x010030);
        x.remove(RULE, 0);
        due("the rule of the others is removed", x.alerts(3), 0);
        AlertEngine all = withRules("=0for0sev1", "=0for0sev1", "=0for0sev1", "=0for0sev1", "=0for0sev1");
        add(all, INHIBITION, "t0>t0/thz");
        for (int series = 0; series < 12; series++) all.sample(series, 0);
        all.pass(1);
        due("all sixty", all.alerts(3), ALL);
        for (int i = 0; i < 60; i++) due("the lowest other one", all.alert(i / 12, i % 12, 9), i == 0 ? 1 : 0);
    }

    private static void firstAndSecond() {
        AlertEngine x = withRules("=0for0sev3", "=0for0sev1");
        x.sample(0, 0);
        x.sample(1, 0);
        x.label(1, 0, 1);
        x.pass(1);
        due("add", add(x, INHIBITION, "s3>s1/"), 0);
        due("the second ones", x.alerts(3), 0x003000);
        x.remove(INHIBITION, 0);
        add(x, INHIBITION, "s3,t0>s1,t1/");
        due("all matchers", x.alerts(3), 0x002000);
        due("the first one", x.alert(1, 1, 9), 0);
        x.remove(INHIBITION, 0);
        add(x, INHIBITION, "t0>t1/");
        due("in one direction", x.alerts(3), 0x002002);
        x.remove(INHIBITION, 0);
        add(x, INHIBITION, "t2>t1/");
        due("no first one", x.alerts(3), 0);
        add(x, INHIBITION, "t1>t2/");
        due("no second one", x.alerts(3), 0);
        AlertEngine last = withRules("=0for0sev0", "=0for0sev0", "=0for0sev0", "=0for0sev0", "=0for0sev1");
        for (int i = 0; i < 4; i++) add(last, INHIBITION, i < 3 ? "s2>s3/" : "s0>s1/");
        last.sample(11, 0);
        last.pass(1);
        due("by the inhibition 3", last.alerts(3), 1L << 59);
    }

    /** Each set of letters, with each set of labels in which the two series differ. */
    private static void sameLabels() {
        for (int letters = 0; letters < 8; letters++) {
            AlertEngine x = withRules("=0for0sev3", "=1for0sev0");
            String text = "s3>s0/" + ((letters & 1) != 0 ? "t" : "") + ((letters & 2) != 0 ? "h" : "") + ((letters & 4) != 0 ? "z" : "");
            add(x, INHIBITION, text);
            x.sample(0, 0);
            x.sample(11, 1);
            x.pass(1);
            for (int differ = 0; differ < 8; differ++) {
                for (int label = 0; label < 3; label++) {
                    x.label(0, label, 2);
                    x.label(11, label, (differ >> label & 1) != 0 ? 3 : 2);
                }
                boolean want = (letters & differ) == 0;
                due(text + ", differing in " + differ, x.alerts(3), want ? 1 << 23 : 0);
                due("by", x.alert(1, 11, 9), want ? 0 : NOTHING);
            }
        }
    }

    private static void suppressedInhibitor() {
        AlertEngine chain = withRules("=0for0sev3", "=0for0sev2", "=0for0sev1");
        add(chain, INHIBITION, "s3>s2/t");
        add(chain, INHIBITION, "s2>s1/t");
        chain.sample(0, 0);
        chain.pass(1);
        due("by an inhibited one", chain.alerts(3), 0x1001000);
        due("which is", chain.alert(2, 0, 9), 12);
        due("active", chain.alerts(5), 1);
        add(chain, SILENCE, "s3@0+9");
        due("by a silenced one", chain.alerts(3), 0x1001000);
        due("none is active", chain.alerts(5), 0);
        AlertEngine flapping = withRules(">0for0sev3", "=1for0sev1");
        add(flapping, INHIBITION, "s3>s1/");
        flapping.parameter(FLAPS, 2);
        step(flapping, 2);
        step(flapping, 0);
        step(flapping, 1);
        due("the other one flaps", flapping.alerts(4), 1);
        due("by a flapping one", flapping.alerts(3), 1 << 12);
        AlertEngine mutual = withRules("=0for0sev1");
        add(mutual, INHIBITION, "t0>t1/");
        add(mutual, INHIBITION, "t1>t0/");
        mutual.sample(0, 0);
        mutual.sample(1, 0);
        mutual.label(1, 0, 1);
        due("nothing is sent", mutual.pass(1), 0);
        due("each by the other", mutual.alerts(3), 3);
    }

    private static void notFiringNotInhibited() {
        AlertEngine x = withRules("=0for0sev3", "=0for9sev1", "=1for0sev1", "=0for0sev1");
        add(x, INHIBITION, "s3>s1/");
        x.sample(0, 0);
        x.pass(1);
        int[] want = {0, 0, 0, 1};
        for (int rule = 0; rule < 4; rule++) {
            due("inhibited in state " + x.alert(rule, 0, 0), x.alert(rule, 0, 3), want[rule]);
            due("by", x.alert(rule, 0, 9), want[rule] == 1 ? 0 : NOTHING);
        }
        due("set", x.alerts(3), 1L << 36);
    }

    private static void flapLimit() {
        for (int limit : new int[] {2, 3, 4, 19, 20}) {
            AlertEngine x = withRules("=1for0sev0");
            x.parameter(WINDOW, 999);
            x.parameter(FLAPS, limit);
            for (int i = 1; i <= limit + 3; i++) {
                step(x, i % 2);
                due(i + " of " + limit, x.alert(0, 0, 4), i >= limit ? 1 : 0);
                due("active with " + i + " of " + limit, x.alerts(5), i % 2 == 1 && i < limit ? 1 : 0);
            }
        }
    }

    private static void window() {
        AlertEngine x = withRules("=1for0sev0");
        x.parameter(FLAPS, 2);
        step(x, 1);
        step(x, 0);
        int[][] due = {{2, 1, 1}, {2, 2, 2}, {3, 1, 0}, {3, 2, 1}, {3, 3, 2}, {30, 28, 0}, {30, 29, 1}, {30, 30, 2},
            {998, 999, 2}, {999, 998, 1}, {999, 999, 2}, {1000, 999, 1}, {1001, 999, 0}};
        for (int[] row : due) {
            passTo(x, row[0]);
            x.parameter(WINDOW, row[1]);
            due("at " + row[0] + " with " + row[1], x.alert(0, 0, 6), row[2]);
            due("flapping at " + row[0] + " with " + row[1], x.alert(0, 0, 4), row[2] >= 2 ? 1 : 0);
        }
        AlertEngine held = withRules("=1for0sev0");
        for (int i = 1; i <= 5; i++) step(held, i % 2);
        due("at 5", held.alerts(4), 1);
        due("nothing up to 31", passTo(held, 31), 0);
        due("four at 31", held.alerts(4), 1);
        due("three at 32", held.pass(1), 1);
        due("active", held.alerts(5), 1);
    }

    private static void twentyTransitions() {
        AlertEngine x = withRules("=1for0sev0");
        x.parameter(WINDOW, 999);
        for (int i = 1; i <= 45; i++) {
            step(x, i % 2);
            due("after " + i, x.alert(0, 0, 6), Math.min(i, 20));
        }
        int[][] due = {{999, 20}, {21, 20}, {20, 20}, {19, 19}, {1, 1}};
        for (int[] row : due) {
            x.parameter(WINDOW, row[0]);
            due("within " + row[0], x.alert(0, 0, 6), row[1]);
        }
        x.parameter(WINDOW, 999);
        x.pass(10);
        due("the latest stay", x.alert(0, 0, 6), 20);
        x.parameter(WINDOW, 29);
        due("from minute 27 on", x.alert(0, 0, 6), 19);
    }

    private static void flappingWithoutFiring() {
        AlertEngine x = withRules("=1for2sev0");
        x.parameter(FLAPS, 2);
        x.sample(0, 1);
        x.pass(3);
        due("firing, one transition", x.alert(0, 0, 4), 0);
        step(x, 0);
        due("inactive, two", x.alert(0, 0, 4), 1);
        step(x, 1);
        due("state", x.alert(0, 0, 0), 1);
        due("pending", x.alert(0, 0, 4), 1);
        due("no firing one", x.alerts(4), 0);
        x.pass(2);
        due("firing", x.alerts(4), 1);
        add(x, SILENCE, "t0@0+99");
        due("silenced too", x.alerts(4), 1);
    }

    private static void active() {
        AlertEngine x = withRules("=1for0sev3", "=1for0sev1", "=1for5sev0");
        x.sample(0, 1);
        x.pass(1);
        due("firing ones, not the pending one", x.alerts(5), 1 | 1 << 12);
        add(x, SILENCE, "s3@0+2");
        due("not a silenced one", x.alerts(5), 1 << 12);
        add(x, INHIBITION, "s3>s1/");
        due("not an inhibited one", x.alerts(5), 0);
        x.remove(SILENCE, 0);
        due("only inhibited", x.alerts(5), 1);
        x.remove(INHIBITION, 0);
        step(x, 0);
        due("inactive", x.alerts(5), 0);
        x.parameter(FLAPS, 3);
        step(x, 1);
        due("not a flapping one", x.alerts(5), 0);
        due("firing", x.alerts(1), 1 | 1 << 12);
        x.parameter(FLAPS, 4);
        due("none of the three", x.alerts(5), 1 | 1 << 12);
        for (int rule = 0; rule < 3; rule++) due("property", x.alert(rule, 0, 5), rule < 2 ? 1 : 0);
    }

    private static void presentSetup() {
        AlertEngine x = withRules("t0:=0for0sev1", "=0for0sev3");
        x.sample(0, 0);
        x.pass(1);
        due("key", x.key(0), 0);
        x.label(0, 0, 2);
        due("key with the new label", x.key(0), 64);
        due("condition with the new label", x.alerts(6), 1 << 12);
        x.parameter(GROUPING, 0);
        due("key with the new grouping", x.key(0), 0);
        add(x, SILENCE, "t2,s1@1+1");
        due("a new silence", x.alerts(2), 1);
        x.label(0, 0, 1);
        due("not of this team", x.alerts(2), 0);
        x.label(0, 0, 2);
        x.remove(SILENCE, 0);
        due("a removed silence", x.alerts(2), 0);
        add(x, INHIBITION, "s3>s1/");
        due("a new inhibition", x.alerts(3), 1);
        x.remove(INHIBITION, 0);
        due("a removed inhibition", x.alerts(3), 0);
        due("severity", x.count(7), 3);
        x.remove(RULE, 1);
        due("severity without the rule", x.count(7), 1);
        step(x, 1);
        x.parameter(FLAPS, 2);
        due("a new limit", x.alert(0, 0, 4), 1);
        x.parameter(WINDOW, 1);
        due("a new window", x.alert(0, 0, 4), 0);
    }

    private static void statesAfterStep() {
        AlertEngine x = withRules("=0for0sev1", "=0for1sev1", "t0:=0for0sev1");
        x.sample(0, 0);
        for (int what = 0; what < 6; what++) due("before the first step " + what, x.alerts(what), 0);
        due("conditions at once", x.alerts(6), 0x1001001);
        x.pass(1);
        x.sample(0, 1);
        x.label(0, 0, 1);
        due("conditions at once", x.alerts(6), 0);
        due("still pending", x.alerts(0), 0x1000);
        due("still firing", x.alerts(1), 0x1000001);
        due("still active", x.alerts(5), 0x1000001);
        due("state", x.alert(0, 0, 0), 2);
        due("since", x.alert(0, 0, 1), 1);
        due("in its group", x.group(32, 2), 2);
        x.pass(1);
        due("no longer", x.alerts(0) | x.alerts(1), 0);
    }

    private static void allSixty() {
        AlertEngine x = withRules("=0for0sev1", "=0for0sev1", "=0for0sev1", "=0for0sev1", "=0for2sev1");
        x.parameter(FLAPS, 2);
        add(x, SILENCE, "t0@0+2");
        add(x, INHIBITION, "s1>s1/");
        for (int series = 0; series < 12; series++) x.sample(series, 0);
        due("conditions", x.alerts(6), ALL);
        x.pass(1);
        due("pending", x.alerts(0), 0xFFFL << 48);
        due("firing and silenced", x.alerts(1) & x.alerts(2), 0xFFFFFFFFFFFFL);
        x.pass(2);
        due("firing", x.alerts(1), ALL);
        due("inhibited", x.alerts(3), ALL);
        x.remove(INHIBITION, 0);
        due("active", x.alerts(5), ALL);
        for (int series = 0; series < 12; series++) x.sample(series, 1);
        x.pass(1);
        due("none", x.alerts(1), 0);
        for (int series = 0; series < 12; series++) x.sample(series, 0);
        x.pass(3);
        due("flapping", x.alerts(4), ALL);
        due("not active", x.alerts(5), 0);
        for (int i = 0; i < 60; i++) due("flapping", x.alert(i / 12, i % 12, 4), 1);
    }

    private static void stateNumbers() {
        AlertEngine x = withRules("=0for1sev0");
        int[][] due = {{0, 1}, {0, 2}, {0, 2}, {1, 0}, {0, 1}, {1, 0}};
        due("at first", x.alert(0, 0, 0), 0);
        for (int[] row : due) {
            step(x, row[0]);
            due("at " + x.count(0), x.alert(0, 0, 0), row[1]);
            due("pending at " + x.count(0), x.alerts(0), row[1] == 1 ? 1 : 0);
            due("firing at " + x.count(0), x.alerts(1), row[1] == 2 ? 1 : 0);
        }
    }

    private static void sinceNumbers() {
        AlertEngine x = withRules("=0for2sev0");
        int[][] due = {{0, 1}, {0, 1}, {0, 3}, {0, 3}, {1, NOTHING}, {0, 6}, {1, NOTHING}};
        due("at first", x.alert(0, 0, 1), NOTHING);
        for (int[] row : due) {
            step(x, row[0]);
            due("at " + x.count(0), x.alert(0, 0, 1), row[1]);
            due("of another series", x.alert(0, 1, 1), NOTHING);
        }
    }

    private static void silencedInAnyState() {
        AlertEngine x = withRules("=0for0sev0", "=0for9sev0", "=1for0sev0");
        x.sample(0, 0);
        x.pass(1);
        add(x, SILENCE, "t0@1+1");
        for (int rule = 0; rule < 3; rule++) due("silenced in state " + x.alert(rule, 0, 0), x.alert(rule, 0, 2), 1);
        due("the firing one", x.alerts(2), 1);
        x.pass(1);
        for (int rule = 0; rule < 3; rule++) due("over in state " + x.alert(rule, 0, 0), x.alert(rule, 0, 2), 0);
    }

    /** The properties of each alert, beside the sets of which it is one. */
    private static void propertiesAndSets() {
        AlertEngine x = withRules("=1for0sev3", "=1for0sev1", "=1for2sev0", "t2:=1for0sev2");
        x.parameter(FLAPS, 2);
        add(x, INHIBITION, "s3>s1/t");
        add(x, SILENCE, "h5@0+99");
        for (int series = 0; series < 12; series++) {
            x.label(series, 0, series % 3);
            x.label(series, 1, series % 8);
            if (series != 4) x.sample(series, 1);
        }
        x.pass(1);
        x.sample(7, 0);
        x.pass(1);
        x.sample(7, 1);
        x.drop(8);
        x.pass(1);
        for (int i = 0; i < 48; i++) {
            int rule = i / 12, series = i % 12;
            boolean firing = x.alert(rule, series, 0) == 2;
            due("pending " + i, x.alert(rule, series, 0) == 1 ? 1 : 0, x.alerts(0) >> i & 1);
            due("firing " + i, firing ? 1 : 0, x.alerts(1) >> i & 1);
            due("inhibited " + i, x.alert(rule, series, 3), x.alerts(3) >> i & 1);
            due("active " + i, x.alert(rule, series, 5), x.alerts(5) >> i & 1);
            if (firing) due("flapping " + i, x.alert(rule, series, 4), x.alerts(4) >> i & 1);
        }
        for (int what = 0; what <= 6; what++) due("the set is not empty " + what, x.alerts(what) != 0 ? 1 : 0, 1);
    }

    private static void countingTransitions() {
        AlertEngine x = withRules("=1for0sev0");
        due("none", x.alert(0, 0, 6), 0);
        step(x, 1);
        due("one", x.alert(0, 0, 6), 1);
        x.pass(29);
        due("at 30", x.alert(0, 0, 6), 1);
        x.pass(1);
        due("at 31", x.alert(0, 0, 6), 0);
        step(x, 0);
        due("a later one", x.alert(0, 0, 6), 1);
        due("another series", x.alert(0, 1, 6), 0);
    }

    private static void lowestSilence() {
        AlertEngine x = withRules("=0for0sev1");
        due("none", x.alert(0, 0, 8), NOTHING);
        String[] texts = {"t1@0+9", "s1@1+1", "s1@0+1", "h0@0+9", "t0@0+9", "z0@0+9"};
        for (String text : texts) add(x, SILENCE, text);
        due("at 0", x.alert(0, 0, 8), 2);
        x.pass(1);
        due("at 1", x.alert(0, 0, 8), 1);
        x.pass(1);
        due("at 2", x.alert(0, 0, 8), 3);
        x.remove(SILENCE, 3);
        due("without 3", x.alert(0, 0, 8), 4);
        x.remove(SILENCE, 4);
        due("without 4", x.alert(0, 0, 8), 5);
        x.label(0, 0, 1);
        due("with team 1", x.alert(0, 0, 8), 0);
        x.pass(7);
        due("at 9", x.alert(0, 0, 8), NOTHING);
    }

    private static void lowestInhibitor() {
        AlertEngine x = withRules("=0for0sev1", "=0for0sev2", "=0for0sev0", "=0for0sev0", "=0for0sev3");
        add(x, INHIBITION, "s3>s0/");
        add(x, INHIBITION, "s2,h1>s0/");
        add(x, INHIBITION, "s1,z1>s0/z");
        x.sample(3, 0);
        x.sample(8, 0);
        x.sample(11, 0);
        x.label(8, 1, 1);
        x.label(11, 2, 1);
        x.pass(1);
        due("through the inhibition 2", x.alert(2, 11, 9), 11);
        due("through the inhibition 1", x.alert(2, 3, 9), 20);
        x.remove(INHIBITION, 1);
        due("through the inhibition 0", x.alert(3, 3, 9), 51);
        x.drop(3);
        x.pass(1);
        due("the next one", x.alert(2, 8, 9), 56);
        x.remove(INHIBITION, 0);
        due("none", x.alert(2, 8, 9), NOTHING);
        due("not inhibited", x.alert(2, 8, 3), 0);
        add(x, INHIBITION, "s0>s0/");
        due("the other rule, the lower series", x.alert(2, 11, 9), 11);
        x.label(11, 2, 0);
        due("itself is passed over", x.alert(2, 8, 9), 35);
        due("so it is in the last one", x.alert(3, 11, 9), 32);
    }

    private static void setsOfFiringOnes() {
        AlertEngine x = withRules("=1for0sev3", "=1for2sev1", "=1for0sev1");
        x.parameter(FLAPS, 2);
        x.sample(1, 1);
        x.pass(1);
        x.sample(1, 0);
        step(x, 1);
        add(x, SILENCE, "t0@0+99");
        add(x, INHIBITION, "s3>s1/");
        due("pending", x.alerts(0), 0x001000);
        due("firing", x.alerts(1), 0x1000001);
        due("silenced", x.alerts(2), 0x1000001);
        due("inhibited", x.alerts(3), 0x1000000);
        due("flapping", x.alerts(4), 0);
        due("an inactive one flaps", x.alert(0, 1, 4), 1);
        x.sample(1, 1);
        x.pass(1);
        due("flapping", x.alerts(4), 0x2000002);
        due("active", x.alerts(5), 0);
        due("conditions", x.alerts(6), 0x3003003);
        x.remove(SILENCE, 0);
        due("active", x.alerts(5), 1);
    }

    private static void seriesWithValues() {
        AlertEngine x = new AlertEngine();
        for (int series = 0; series < 12; series++) {
            x.sample(series, 0);
            x.sample(series, 0);
            due("values", x.count(4), series + 1);
        }
        for (int series = 11; series >= 0; series--) {
            x.drop(series);
            x.drop(series);
            due("values", x.count(4), series);
        }
    }

    private static void greatestSeverity() {
        AlertEngine x = withRules("=0for0sev0", "=1for0sev3", "=0for9sev2", ">0for0sev1");
        due("none", x.count(7), NOTHING);
        step(x, 0);
        due("0 is one", x.count(7), 0);
        step(x, 1);
        due("3", x.count(7), 3);
        add(x, SILENCE, "s3@0+9");
        due("not of a silenced one", x.count(7), 1);
        add(x, SILENCE, "s1@0+9");
        due("none is active", x.count(7), NOTHING);
    }

    private static void silencesInUse() {
        AlertEngine x = withRules("=0for0sev0", "=0for9sev1", "=1for0sev2");
        x.sample(0, 0);
        x.pass(1);
        String[] texts = {"s0@1+1", "s1@0+9", "s2@0+9", "s0@2+9", "t0@0+9", "s0@0+1"};
        int[] want = {1, 1, 1, 1, 2, 2};
        for (int i = 0; i < texts.length; i++) {
            add(x, SILENCE, texts[i]);
            due("with " + texts[i], x.count(8), want[i]);
        }
        x.pass(1);
        due("at 2", x.count(8), 2);
        x.pass(7);
        due("at 9", x.count(8), 1);
        x.drop(0);
        x.pass(1);
        due("nothing fires", x.count(8), 0);
        AlertEngine all = withRules("=0for0sev0");
        for (int i = 0; i < 6; i++) add(all, SILENCE, "t0@0+9");
        all.sample(0, 0);
        all.pass(1);
        due("all six", all.count(8), 6);
    }
}
