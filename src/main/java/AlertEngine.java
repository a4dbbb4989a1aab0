/**
 * An alert engine: rules over series make alerts, silences and inhibitions suppress them, flapping
 * alerts are held back, and the others are sent in groups. Not thread-safe.
 *
 * <p>All that a snapshot contains stands in a {@link State}; questions about the coming minutes are
 * answered by a second one that is copied from the present one and steps ahead.
 */
public final class AlertEngine {
    public static final int NONE = -1, BAD = -2, STATE = -3, FULL = -4;

    /** The answer where no error applies but there is nothing to tell. */
    private static final int NOTHING = -5;

    private static final int SERIES = 12, RULES = 5, SILENCES = 6, INHIBITIONS = 4;
    private static final int ALERTS = RULES * SERIES, KEYS = 128;
    private static final long EVERY_ALERT = (1L << ALERTS) - 1;
    /** The alerts of series 0 for all rules, and those of rule 0 for all series. */
    private static final long FIRST_SERIES = 0x001001001001001L, FIRST_RULE = 0xFFFL;

    private static final int RULE = 0, SILENCE = 1, INHIBITION = 2;

    private static final int TEAM = 0, HOST = 1, ZONE = 2, SEVERITY = 3;
    private static final int LABELS = 3;
    private static final int[] GREATEST_OF_LABEL = {3, 7, 3, 3};
    /** Where the sets of alerts begin that have a label's values, and how many there are. */
    private static final int[] FIRST_SET = {0, 4, 12, 16};
    private static final int LABEL_SETS = 20;

    private static final int GROUP_INTERVAL = 0, REPEAT_INTERVAL = 1, WINDOW = 2, FLAPS = 3, GROUPING = 4;
    private static final int PARAMETERS = 5;
    private static final int[] LEAST = {1, 1, 1, 2, 0};
    private static final int[] GREATEST = {60, 999, 999, 20, 7};

    private static final int INACTIVE = 0, PENDING = 1, FIRING = 2;

    private static final int OPENED = 0, GROWN = 1, REPEATED = 2, RESOLVED = 3;

    private static final int GREATEST_BYTE = 127, MOST_FED = 5;
    private static final int MOST_MINUTES = 100, LAST_MINUTE = 99999;
    private static final int WRONG_TEXT = -100, SAVED_BASE = 1000, FIRST_PARAMETER_COUNT = 10;

    private final Tape tape;
    private final State now;
    private final State snapshot;
    /** The state that steps ahead for a forecast; between two calls its contents mean nothing. */
    private final State trial;
    private boolean hasSnapshot;

    public AlertEngine() {
        tape = new Tape();
        now = new State();
        snapshot = new State();
        trial = new State();
    }

    public int label(int series, int label, int v) {
        if (!isSeries(series) || label < 0 || label >= LABELS) return NONE;
        if (v < 0 || v > GREATEST_OF_LABEL[label]) return BAD;
        return now.setup.relabel(series, label, v);
    }

    public int sample(int series, int v) {
        if (!isSeries(series)) return NONE;
        int had = bit(now.setup.hasValue[series]);
        now.setup.hasValue[series] = true;
        now.setup.values[series] = v;
        return had;
    }

    public int drop(int series) {
        if (!isSeries(series)) return NONE;
        int had = bit(now.setup.hasValue[series]);
        now.setup.hasValue[series] = false;
        return had;
    }

    public int feed(int n, int a, int b, int c, int d, int e) {
        if (n < 1 || n > MOST_FED) return BAD;
        if (!isByte(a) || !isByte(b) || !isByte(c) || !isByte(d) || !isByte(e)) return BAD;
        if (!tape.hasRoomFor(n)) return FULL;
        tape.append(a);
        if (n > 1) tape.append(b);
        if (n > 2) tape.append(c);
        if (n > 3) tape.append(d);
        if (n > 4) tape.append(e);
        return tape.length;
    }

    public int add(int kind) {
        if (!isKind(kind)) return NONE;
        int number = lowestFree(now.setup.slots(kind));
        if (number == NOTHING) return FULL;
        tape.rewind();
        // a wrong text reads as null, which leaves the slot as free as it was
        if (kind == RULE) now.setup.putRule(number, tape.readRule());
        if (kind == SILENCE) now.setup.silences[number] = tape.readSilence();
        if (kind == INHIBITION) now.setup.inhibitions[number] = tape.readInhibition();
        int answer = tape.wrong ? WRONG_TEXT - tape.at : number;
        tape.clear();
        return answer;
    }

    public int remove(int kind, int number) {
        if (!isKind(kind)) return NONE;
        Entry[] slots = now.setup.slots(kind);
        if (!holdsEntry(slots, number)) return NONE;
        if (kind == RULE) {
            now.setup.putRule(number, null);
            now.states.forgetRule(number);
        } else {
            slots[number] = null;
        }
        return countEntries(slots);
    }

    public int parameter(int what, int v) {
        if (what < 0 || what >= PARAMETERS) return NONE;
        if (v < LEAST[what] || v > GREATEST[what]) return BAD;
        int previous = now.setup.parameters[what];
        now.setup.parameters[what] = v;
        if (what == GROUPING && v != previous) now.groups.forgetAll();
        return previous;
    }

    public int pass(int n) {
        if (!isSpan(n)) return BAD;
        if (now.minute + n > LAST_MINUTE) return FULL;
        return now.steps(n);
    }

    public int alert(int rule, int series, int what) {
        if (!holdsEntry(now.setup.rules, rule) || !isSeries(series)) return NONE;
        int alert = rule * SERIES + series;
        switch (what) {
            case 0: return now.states.stateOf(alert);
            case 1: return now.states.sinceOf(alert);
            case 2: return bit(has(now.silenced(), alert));
            case 3: return bit(now.inhibitorsOf(alert) != 0);
            case 4: return bit(has(now.flapping(EVERY_ALERT), alert));
            case 5: return bit(has(now.active(), alert));
            case 6: return now.states.transitionsAfter(alert, now.windowStart());
            case 7: return now.setup.keyOf(series);
            case 8: return now.lowestSilenceOf(alert);
            case 9: return lowest(now.inhibitorsOf(alert));
            case 10: return bit(has(now.setup.holding(), alert));
            default: return NONE;
        }
    }

    public long alerts(int what) {
        switch (what) {
            case 0: return now.states.pending;
            case 1: return now.states.firing;
            case 2: return now.states.firing & now.silenced();
            case 3: return now.inhibited();
            case 4: return now.flapping(now.states.firing);
            case 5: return now.active();
            case 6: return now.setup.holding();
            default: return NONE;
        }
    }

    public int group(int key, int what) {
        if (key < 0 || key >= KEYS) return NONE;
        now.groups.sort(now.active(), now.setup);
        switch (what) {
            case 0: return bit(now.groups.open[key]);
            case 1: return now.groups.open[key] ? now.groups.sentAt[key] : NOTHING;
            case 2: return Long.bitCount(now.groups.members[key]);
            case 3: return Long.bitCount(now.groups.newcomers(key));
            case 4: return now.groups.nextMinute(key, now.minute, now.setup);
            default: return NONE;
        }
    }

    public int key(int i) {
        if (i < -1 || i >= KEYS) return NONE;
        now.groups.sort(now.active(), now.setup);
        return i == -1 ? now.groups.countNonEmpty() : now.groups.keyAt(i);
    }

    public int sent(int i, int what) {
        if (!now.log.keeps(i) || what < 0 || what >= Log.COLUMNS) return NONE;
        return now.log.read(i, what);
    }

    public int ahead(int n) {
        if (!isSpan(n)) return BAD;
        trial.copyFrom(now);
        return trial.steps(n);
    }

    public int next(int n) {
        if (!isSpan(n)) return BAD;
        trial.copyFrom(now);
        for (int i = 0; i < n; i++) {
            if (trial.step() > 0) return trial.minute;
        }
        return NOTHING;
    }

    public int saved(int silence, int n) {
        if (!holdsEntry(now.setup.silences, silence)) return NONE;
        if (!isSpan(n)) return BAD;
        trial.copyFrom(now);
        int with = trial.steps(n);
        trial.copyFrom(now);
        trial.setup.silences[silence] = null;
        return trial.steps(n) - with + SAVED_BASE;
    }

    public int image() {
        snapshot.copyFrom(now);
        hasSnapshot = true;
        return now.minute;
    }

    public int undo() {
        if (!hasSnapshot) return STATE;
        now.copyFrom(snapshot);
        return now.minute;
    }

    public int count(int what) {
        switch (what) {
            case 0: return now.minute;
            case 1: return countEntries(now.setup.rules);
            case 2: return countEntries(now.setup.silences);
            case 3: return countEntries(now.setup.inhibitions);
            case 4: return now.setup.countValues();
            case 5: return now.log.total;
            case 6: return now.groups.countOpen();
            case 7: return now.setup.greatestSeverity(now.active());
            case 8: return now.countSilencesInUse();
            case 9: return tape.length;
            default: return parameterOrNone(what - FIRST_PARAMETER_COUNT);
        }
    }

    private int parameterOrNone(int what) {
        return what >= 0 && what < PARAMETERS ? now.setup.parameters[what] : NONE;
    }

    private static boolean isSeries(int series) {
        return series >= 0 && series < SERIES;
    }

    private static boolean isByte(int b) {
        return b >= 0 && b <= GREATEST_BYTE;
    }

    private static boolean isKind(int kind) {
        return kind >= RULE && kind <= INHIBITION;
    }

    private static boolean isSpan(int n) {
        return n >= 1 && n <= MOST_MINUTES;
    }

    private static int bit(boolean b) {
        return b ? 1 : 0;
    }

    private static boolean has(long set, int alert) {
        return (set >>> alert & 1) != 0;
    }

    private static int lowest(long set) {
        return set == 0 ? NOTHING : Long.numberOfTrailingZeros(set);
    }

    private static boolean holdsEntry(Entry[] slots, int number) {
        return number >= 0 && number < slots.length && slots[number] != null;
    }

    private static int lowestFree(Entry[] slots) {
        for (int i = 0; i < slots.length; i++) {
            if (slots[i] == null) return i;
        }
        return NOTHING;
    }

    private static int countEntries(Entry[] slots) {
        int count = 0;
        for (int i = 0; i < slots.length; i++) {
            if (slots[i] != null) count++;
        }
        return count;
    }

    /** A sequence of at most four matchers; an empty one matches every alert. */
    private static final class Matchers {
        static final int MOST = 4;

        /** The label set that each matcher asks for, or with "not" the one it rules out. */
        final int[] labelSets = new int[MOST];
        final boolean[] not = new boolean[MOST];
        int size;
    }

    /** What a text can add. Entries never change once they are read, so that states share them. */
    private abstract static class Entry {
    }

    private static final class Rule extends Entry {
        final Matchers matchers;
        final int sign;
        final int bound;
        final int wait;
        final int severity;

        Rule(Matchers matchers, int sign, int bound, int wait, int severity) {
            this.matchers = matchers;
            this.sign = sign;
            this.bound = bound;
            this.wait = wait;
            this.severity = severity;
        }

        boolean accepts(int value) {
            if (sign == '<') return value < bound;
            if (sign == '>') return value > bound;
            return value == bound;
        }
    }

    private static final class Silence extends Entry {
        final Matchers matchers;
        final int from;
        final int length;

        Silence(Matchers matchers, int from, int length) {
            this.matchers = matchers;
            this.from = from;
            this.length = length;
        }

        boolean isOn(int minute) {
            return from <= minute && minute < from + length;
        }
    }

    private static final class Inhibition extends Entry {
        final Matchers causes;
        final Matchers targets;
        /** Bit n for the label n, if both alerts must have the same one. */
        final int sameLabels;

        Inhibition(Matchers causes, Matchers targets, int sameLabels) {
            this.causes = causes;
            this.targets = targets;
            this.sameLabels = sameLabels;
        }
    }

    /**
     * The bytes of a text, and the place where it is read. At the first byte that cannot stand, the
     * text is wrong and the place stays there, because nothing matches from then on.
     */
    private static final class Tape {
        private static final int MOST_BYTES = 60, MOST_DIGITS = 4, END = -1;

        private final int[] bytes = new int[MOST_BYTES];
        int length;
        int at;
        boolean wrong;

        boolean hasRoomFor(int n) {
            return length + n <= MOST_BYTES;
        }

        void append(int b) {
            if (length < MOST_BYTES) bytes[length++] = b;
        }

        void clear() {
            length = 0;
        }

        void rewind() {
            at = 0;
            wrong = false;
        }

        Rule readRule() {
            Matchers matchers = startsRuleSign() ? new Matchers() : readMatchersAhead();
            int sign = peek();
            if (startsRuleSign()) at++; else wrong = true;
            boolean negative = skip('-');
            int bound = readNumber();
            expect('f');
            expect('o');
            expect('r');
            int wait = readNumber();
            expect('s');
            expect('e');
            expect('v');
            int severity = readDigit(GREATEST_OF_LABEL[SEVERITY]);
            expectEnd();
            return wrong ? null : new Rule(matchers, sign, negative ? -bound : bound, wait, severity);
        }

        Silence readSilence() {
            Matchers matchers = readMatchers(false);
            expect('@');
            int from = readNumber();
            expect('+');
            int span = readNumber();
            expectEnd();
            return wrong ? null : new Silence(matchers, from, span);
        }

        Inhibition readInhibition() {
            Matchers causes = readMatchers(false);
            expect('>');
            Matchers targets = readMatchers(false);
            expect('/');
            int sameLabels = 0;
            for (int i = 0; i < MOST_BYTES; i++) {
                int label = labelOf(peek());
                if (label < 0 || label == SEVERITY) break;
                sameLabels |= 1 << label;
                at++;
            }
            expectEnd();
            return wrong ? null : new Inhibition(causes, targets, sameLabels);
        }

        private boolean startsRuleSign() {
            int b = peek();
            return b == '<' || b == '>' || b == '=';
        }

        private Matchers readMatchersAhead() {
            Matchers matchers = readMatchers(true);
            expect(':');
            return matchers;
        }

        private Matchers readMatchers(boolean inRule) {
            Matchers matchers = new Matchers();
            readMatcher(matchers, inRule);
            for (int i = 1; i < Matchers.MOST; i++) {
                if (!skip(',')) break;
                readMatcher(matchers, inRule);
            }
            return matchers;
        }

        private void readMatcher(Matchers matchers, boolean inRule) {
            boolean not = skip('!');
            int label = labelOf(peek());
            if (label < 0 || inRule && label == SEVERITY) {
                wrong = true;
                return;
            }
            at++;
            int digit = readDigit(GREATEST_OF_LABEL[label]);
            if (wrong || matchers.size >= Matchers.MOST) return;
            matchers.labelSets[matchers.size] = FIRST_SET[label] + digit;
            matchers.not[matchers.size] = not;
            matchers.size++;
        }

        private static int labelOf(int b) {
            switch (b) {
                case 't': return TEAM;
                case 'h': return HOST;
                case 'z': return ZONE;
                case 's': return SEVERITY;
                default: return NOTHING;
            }
        }

        private int readNumber() {
            int number = readDigit(9);
            for (int i = 1; i < MOST_DIGITS; i++) {
                if (number == 0 || peek() < '0' || peek() > '9') break;
                number = 10 * number + readDigit(9);
            }
            return number;
        }

        private int readDigit(int greatest) {
            int digit = peek() - '0';
            if (digit < 0 || digit > greatest) {
                wrong = true;
                return 0;
            }
            at++;
            return digit;
        }

        private int peek() {
            return !wrong && at < length && at < MOST_BYTES ? bytes[at] : END;
        }

        private boolean skip(int b) {
            if (peek() != b) return false;
            at++;
            return true;
        }

        private void expect(int b) {
            if (!skip(b)) wrong = true;
        }

        private void expectEnd() {
            if (at < length) wrong = true;
        }
    }

    /** What the calls set and time does not change: series, rules, silences, inhibitions, parameters. */
    private static final class Setup {
        private final int[] labels = new int[LABELS * SERIES];
        final int[] values = new int[SERIES];
        final boolean[] hasValue = new boolean[SERIES];
        final Rule[] rules = new Rule[RULES];
        final Silence[] silences = new Silence[SILENCES];
        final Inhibition[] inhibitions = new Inhibition[INHIBITIONS];
        final int[] parameters = {5, 60, 30, 4, 1};
        /** The alerts that have a label, for each value of each label; kept so that matching is quick. */
        private final long[] labelSets = new long[LABEL_SETS];

        Setup() {
            sortLabels();
        }

        void copyFrom(Setup other) {
            System.arraycopy(other.labels, 0, labels, 0, labels.length);
            System.arraycopy(other.values, 0, values, 0, values.length);
            for (int i = 0; i < SERIES; i++) hasValue[i] = other.hasValue[i];
            for (int i = 0; i < RULES; i++) rules[i] = other.rules[i];
            for (int i = 0; i < SILENCES; i++) silences[i] = other.silences[i];
            for (int i = 0; i < INHIBITIONS; i++) inhibitions[i] = other.inhibitions[i];
            System.arraycopy(other.parameters, 0, parameters, 0, parameters.length);
            System.arraycopy(other.labelSets, 0, labelSets, 0, labelSets.length);
        }

        Entry[] slots(int kind) {
            if (kind == RULE) return rules;
            return kind == SILENCE ? silences : inhibitions;
        }

        void putRule(int number, Rule rule) {
            rules[number] = rule;
            sortLabels();
        }

        int relabel(int series, int label, int v) {
            int previous = labels[label * SERIES + series];
            labels[label * SERIES + series] = v;
            sortLabels();
            return previous;
        }

        private void sortLabels() {
            for (int i = 0; i < LABEL_SETS; i++) labelSets[i] = 0;
            for (int label = 0; label < LABELS; label++) {
                for (int series = 0; series < SERIES; series++) {
                    int value = labels[label * SERIES + series];
                    labelSets[FIRST_SET[label] + value] |= FIRST_SERIES << series;
                }
            }
            for (int i = 0; i < RULES; i++) {
                Rule rule = rules[i];
                if (rule != null) labelSets[FIRST_SET[SEVERITY] + rule.severity] |= FIRST_RULE << i * SERIES;
            }
        }

        int countValues() {
            int count = 0;
            for (int i = 0; i < SERIES; i++) {
                if (hasValue[i]) count++;
            }
            return count;
        }

        int keyOf(int series) {
            int grouping = parameters[GROUPING];
            int key = 0;
            if ((grouping & 1) != 0) key += 32 * labels[TEAM * SERIES + series];
            if ((grouping & 2) != 0) key += 4 * labels[HOST * SERIES + series];
            if ((grouping & 4) != 0) key += labels[ZONE * SERIES + series];
            return key;
        }

        long matched(Matchers matchers) {
            long matched = EVERY_ALERT;
            for (int i = 0; i < matchers.size; i++) {
                long set = labelSets[matchers.labelSets[i]];
                matched &= matchers.not[i] ? ~set : set;
            }
            return matched;
        }

        /** The alerts that have the same labels as a series, for all labels that are asked for. */
        long alike(int series, int sameLabels) {
            long alike = EVERY_ALERT;
            for (int label = 0; label < LABELS; label++) {
                int value = labels[label * SERIES + series];
                if ((sameLabels >> label & 1) != 0) alike &= labelSets[FIRST_SET[label] + value];
            }
            return alike;
        }

        /** The alerts whose conditions hold. */
        long holding() {
            long holding = 0;
            for (int i = 0; i < RULES; i++) {
                Rule rule = rules[i];
                if (rule != null) holding |= acceptedSeries(rule) << i * SERIES & matched(rule.matchers);
            }
            return holding;
        }

        private long acceptedSeries(Rule rule) {
            long accepted = 0;
            for (int series = 0; series < SERIES; series++) {
                if (hasValue[series] && rule.accepts(values[series])) accepted |= 1L << series;
            }
            return accepted;
        }

        /** How long an alert is pending before it fires. */
        int waitOf(int alert) {
            Rule rule = rules[alert / SERIES];
            return rule == null ? 0 : rule.wait;
        }

        int greatestSeverity(long alerts) {
            for (int severity = GREATEST_OF_LABEL[SEVERITY]; severity >= 0; severity--) {
                if ((alerts & labelSets[FIRST_SET[SEVERITY] + severity]) != 0) return severity;
            }
            return NOTHING;
        }
    }

    /** The states of the alerts after the latest step, and their latest transitions. */
    private static final class AlertStates {
        private static final int REMEMBERED = 20;

        long pending;
        long firing;
        private final int[] since = new int[ALERTS];
        /** The minutes of each alert's latest transitions, in a row of its own that is used in turn. */
        private final int[] transitions = new int[ALERTS * REMEMBERED];
        private final int[] transitionCount = new int[ALERTS];

        void copyFrom(AlertStates other) {
            pending = other.pending;
            firing = other.firing;
            System.arraycopy(other.since, 0, since, 0, since.length);
            System.arraycopy(other.transitions, 0, transitions, 0, transitions.length);
            System.arraycopy(other.transitionCount, 0, transitionCount, 0, transitionCount.length);
        }

        int stateOf(int alert) {
            if (has(firing, alert)) return FIRING;
            return has(pending, alert) ? PENDING : INACTIVE;
        }

        int sinceOf(int alert) {
            return stateOf(alert) == INACTIVE ? NOTHING : since[alert];
        }

        void advance(int minute, long holding, Setup setup) {
            for (int alert = 0; alert < ALERTS; alert++) {
                if (has(holding, alert)) rise(alert, minute, setup.waitOf(alert));
                else settle(alert, minute);
            }
        }

        private void rise(int alert, int minute, int wait) {
            if (stateOf(alert) == INACTIVE) {
                pending |= 1L << alert;
                since[alert] = minute;
            }
            if (stateOf(alert) == PENDING && minute - since[alert] >= wait) {
                pending &= ~(1L << alert);
                firing |= 1L << alert;
                since[alert] = minute;
                remember(alert, minute);
            }
        }

        private void settle(int alert, int minute) {
            if (stateOf(alert) == FIRING) remember(alert, minute);
            pending &= ~(1L << alert);
            firing &= ~(1L << alert);
        }

        private void remember(int alert, int minute) {
            transitions[alert * REMEMBERED + transitionCount[alert] % REMEMBERED] = minute;
            transitionCount[alert]++;
        }

        /** How many of the remembered transitions are at minutes greater than the given one. */
        int transitionsAfter(int alert, int minute) {
            int count = 0;
            for (int i = 0; i < REMEMBERED && i < transitionCount[alert]; i++) {
                if (transitions[alert * REMEMBERED + i] > minute) count++;
            }
            return count;
        }

        /** Those of the given alerts that have at least so many transitions after a minute. */
        long flapping(long alerts, int minute, int limit) {
            long flapping = 0;
            for (int alert = 0; alert < ALERTS; alert++) {
                if (has(alerts, alert) && transitionsAfter(alert, minute) >= limit) flapping |= 1L << alert;
            }
            return flapping;
        }

        void forgetRule(int rule) {
            long gone = FIRST_RULE << rule * SERIES;
            pending &= ~gone;
            firing &= ~gone;
            for (int series = 0; series < SERIES; series++) transitionCount[rule * SERIES + series] = 0;
        }
    }

    /** The groups by their keys: which are open, and when and with which alerts each was sent last. */
    private static final class Groups {
        final boolean[] open = new boolean[KEYS];
        final int[] sentAt = new int[KEYS];
        private final long[] sentMembers = new long[KEYS];
        /** The active alerts of each group; sorted anew before they are looked at. */
        final long[] members = new long[KEYS];

        void copyFrom(Groups other) {
            for (int key = 0; key < KEYS; key++) open[key] = other.open[key];
            System.arraycopy(other.sentAt, 0, sentAt, 0, KEYS);
            System.arraycopy(other.sentMembers, 0, sentMembers, 0, KEYS);
        }

        void forgetAll() {
            for (int key = 0; key < KEYS; key++) open[key] = false;
        }

        void sort(long active, Setup setup) {
            for (int key = 0; key < KEYS; key++) members[key] = 0;
            for (int series = 0; series < SERIES; series++) {
                members[setup.keyOf(series)] |= active & FIRST_SERIES << series;
            }
        }

        /** The members that were not in the group when it was sent last. */
        long newcomers(int key) {
            return open[key] ? members[key] & ~sentMembers[key] : members[key];
        }

        /** The kind of the notification that is due at a minute, NOTHING if none is. */
        int dueKind(int key, int minute, Setup setup) {
            if (!open[key]) return members[key] == 0 ? NOTHING : OPENED;
            if (members[key] == 0) return RESOLVED;
            int passed = minute - sentAt[key];
            if (newcomers(key) != 0 && passed >= setup.parameters[GROUP_INTERVAL]) return GROWN;
            return passed >= setup.parameters[REPEAT_INTERVAL] ? REPEATED : NOTHING;
        }

        /** The minute after the present one at which the group would be sent if its members stayed. */
        int nextMinute(int key, int minute, Setup setup) {
            boolean empty = members[key] == 0;
            if (!open[key] && empty) return NOTHING;
            if (!open[key] || empty) return minute + 1;
            int interval = setup.parameters[REPEAT_INTERVAL];
            if (newcomers(key) != 0) interval = Math.min(interval, setup.parameters[GROUP_INTERVAL]);
            return Math.max(minute + 1, sentAt[key] + interval);
        }

        void markSent(int key, int kind, int minute) {
            open[key] = kind != RESOLVED;
            sentAt[key] = minute;
            sentMembers[key] = members[key];
        }

        int countOpen() {
            int count = 0;
            for (int key = 0; key < KEYS; key++) {
                if (open[key]) count++;
            }
            return count;
        }

        int countNonEmpty() {
            int count = 0;
            for (int key = 0; key < KEYS; key++) {
                if (members[key] != 0) count++;
            }
            return count;
        }

        /** The key of the group with members that has the given index among them. */
        int keyAt(int index) {
            int left = index;
            for (int key = 0; key < KEYS; key++) {
                if (members[key] == 0) continue;
                if (left == 0) return key;
                left--;
            }
            return NONE;
        }
    }

    /** The latest notifications, in rows that are used in turn. */
    private static final class Log {
        static final int COLUMNS = 5;
        private static final int KEPT = 30;

        private final int[] rows = new int[KEPT * COLUMNS];
        int total;

        void copyFrom(Log other) {
            total = other.total;
            System.arraycopy(other.rows, 0, rows, 0, rows.length);
        }

        void write(int minute, int key, int kind, int size, int severity) {
            int row = total % KEPT * COLUMNS;
            rows[row] = minute;
            rows[row + 1] = key;
            rows[row + 2] = kind;
            rows[row + 3] = size;
            rows[row + 4] = severity;
            total++;
        }

        boolean keeps(int i) {
            return i >= 0 && i < KEPT && i < total;
        }

        int read(int i, int column) {
            return rows[(total - 1 - i) % KEPT * COLUMNS + column];
        }
    }

    /** Everything that a snapshot contains. */
    private static final class State {
        int minute;
        final Setup setup = new Setup();
        final AlertStates states = new AlertStates();
        final Groups groups = new Groups();
        final Log log = new Log();

        void copyFrom(State other) {
            minute = other.minute;
            setup.copyFrom(other.setup);
            states.copyFrom(other.states);
            groups.copyFrom(other.groups);
            log.copyFrom(other.log);
        }

        int steps(int n) {
            int sent = 0;
            for (int i = 0; i < n; i++) sent += step();
            return sent;
        }

        /** Lets one minute pass; answers the number of notifications sent. */
        int step() {
            minute++;
            states.advance(minute, setup.holding(), setup);
            groups.sort(active(), setup);
            int sent = 0;
            for (int key = 0; key < KEYS; key++) {
                int kind = groups.dueKind(key, minute, setup);
                if (kind == NOTHING) continue;
                sendGroup(key, kind);
                sent++;
            }
            return sent;
        }

        private void sendGroup(int key, int kind) {
            long members = groups.members[key];
            groups.markSent(key, kind, minute);
            log.write(minute, key, kind, Long.bitCount(members), setup.greatestSeverity(members));
        }

        long active() {
            long heard = states.firing & ~silenced() & ~inhibited();
            return heard & ~flapping(heard);
        }

        private long silencedBy(int number) {
            Silence silence = setup.silences[number];
            return silence != null && silence.isOn(minute) ? setup.matched(silence.matchers) : 0;
        }

        /** The alerts that a silence suppresses, whatever their states. */
        long silenced() {
            long silenced = 0;
            for (int i = 0; i < SILENCES; i++) silenced |= silencedBy(i);
            return silenced;
        }

        int lowestSilenceOf(int alert) {
            for (int i = 0; i < SILENCES; i++) {
                if (has(silencedBy(i), alert)) return i;
            }
            return NOTHING;
        }

        int countSilencesInUse() {
            int count = 0;
            for (int i = 0; i < SILENCES; i++) {
                if ((silencedBy(i) & states.firing) != 0) count++;
            }
            return count;
        }

        /** The firing alerts that inhibit a firing one; none if it is not firing. */
        long inhibitorsOf(int alert) {
            if (!has(states.firing, alert)) return 0;
            long inhibitors = 0;
            for (int i = 0; i < INHIBITIONS; i++) {
                Inhibition inhibition = setup.inhibitions[i];
                if (inhibition == null || !has(setup.matched(inhibition.targets), alert)) continue;
                inhibitors |= setup.matched(inhibition.causes) & setup.alike(alert % SERIES, inhibition.sameLabels);
            }
            return inhibitors & states.firing & ~(1L << alert);
        }

        long inhibited() {
            long inhibited = 0;
            for (int i = 0; i < INHIBITIONS; i++) {
                Inhibition inhibition = setup.inhibitions[i];
                if (inhibition != null) inhibited |= inhibitedBy(inhibition);
            }
            return inhibited;
        }

        private long inhibitedBy(Inhibition inhibition) {
            long causes = setup.matched(inhibition.causes) & states.firing;
            long targets = setup.matched(inhibition.targets) & states.firing;
            long inhibited = 0;
            for (int series = 0; series < SERIES; series++) {
                long inhibitors = causes & setup.alike(series, inhibition.sameLabels);
                if (inhibitors == 0) continue;
                // a single inhibitor does not inhibit itself, while several inhibit one another
                long others = Long.bitCount(inhibitors) == 1 ? ~inhibitors : EVERY_ALERT;
                inhibited |= targets & FIRST_SERIES << series & others;
            }
            return inhibited;
        }

        /** The minute after which transitions count for flapping. */
        int windowStart() {
            return minute - setup.parameters[WINDOW];
        }

        /** Those of the given alerts that are flapping. */
        long flapping(long alerts) {
            return states.flapping(alerts, windowStart(), setup.parameters[FLAPS]);
        }
    }
}
