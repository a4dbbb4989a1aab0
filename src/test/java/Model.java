import java.util.ArrayList;
import java.util.LinkedHashSet;
import java.util.List;
import java.util.Map;
import java.util.Set;
import java.util.TreeMap;
import java.util.TreeSet;
import java.util.regex.Matcher;
import java.util.regex.Pattern;

/** A slow engine, written sentence by sentence from the document, to compare the program with. */
final class Model {
    private static final int NONE = -1, BAD = -2, STATE = -3, FULL = -4, NOTHING = -5;
    private static final int[] SLOTS = {5, 6, 4};
    private static final int[] LEAST = {1, 1, 1, 2, 0};
    private static final int[] MOST = {60, 999, 999, 20, 7};

    private static final String NUMBER = "(0|[1-9][0-9]?[0-9]?[0-9]?)";
    private static final String RULE_MATCHER = "!?([tz][0-3]|h[0-7])";
    private static final String MATCHER = "!?([tzs][0-3]|h[0-7])";
    private static final Pattern[] FORMS = {
        Pattern.compile("((?<first>" + many(RULE_MATCHER) + "):)?(?<sign>[<>=])(?<bound>-?" + NUMBER
            + ")[f][o][r](?<wait>" + NUMBER + ")[s][e][v](?<severity>[0-3])"),
        Pattern.compile("(?<first>" + many(MATCHER) + ")@(?<from>" + NUMBER + ")[+](?<span>" + NUMBER + ")"),
        Pattern.compile("(?<first>" + many(MATCHER) + ")>(?<second>" + many(MATCHER) + ")/(?<same>[thz]*)"),
    };

    /** A group that is open. */
    private record Sending(int minute, Set<Integer> members) {
    }

    /** The state of one alert. */
    private static final class Alert {
        int state;
        int since;
        List<Integer> transitions = new ArrayList<>();

        Alert copy() {
            Alert copy = new Alert();
            copy.state = state;
            copy.since = since;
            copy.transitions = new ArrayList<>(transitions);
            return copy;
        }
    }

    private int minute = 0;
    private int[][] labels = new int[12][3];
    private Integer[] values = new Integer[12];
    private Matcher[][] entries = {new Matcher[5], new Matcher[6], new Matcher[4]};
    private int[] parameters = {5, 60, 30, 4, 1};
    private Alert[] alerts = new Alert[60];
    private TreeMap<Integer, Sending> open = new TreeMap<>();
    private List<int[]> log = new ArrayList<>();
    private String tape = "";
    private Model snapshot = null;

    Model() {
        for (int i = 0; i < 60; i++) alerts[i] = new Alert();
    }

    private static String many(String matcher) {
        return matcher + "(," + matcher + "){0,3}";
    }

    private Model copy() {
        Model copy = new Model();
        copy.take(this);
        return copy;
    }

    private void take(Model from) {
        minute = from.minute;
        for (int i = 0; i < 12; i++) labels[i] = from.labels[i].clone();
        values = from.values.clone();
        for (int kind = 0; kind < 3; kind++) entries[kind] = from.entries[kind].clone();
        parameters = from.parameters.clone();
        for (int i = 0; i < 60; i++) alerts[i] = from.alerts[i].copy();
        open = new TreeMap<>(from.open);
        log = new ArrayList<>(from.log);
    }

    int label(int series, int label, int v) {
        if (series < 0 || series > 11 || label < 0 || label > 2) return NONE;
        if (v < 0 || v > (label == 1 ? 7 : 3)) return BAD;
        int previous = labels[series][label];
        labels[series][label] = v;
        return previous;
    }

    int sample(int series, int v) {
        if (series < 0 || series > 11) return NONE;
        int had = values[series] == null ? 0 : 1;
        values[series] = v;
        return had;
    }

    int drop(int series) {
        if (series < 0 || series > 11) return NONE;
        int had = values[series] == null ? 0 : 1;
        values[series] = null;
        return had;
    }

    int feed(int n, int a, int b, int c, int d, int e) {
        int[] bytes = {a, b, c, d, e};
        if (n < 1 || n > 5) return BAD;
        for (int one : bytes) if (one < 0 || one > 127) return BAD;
        if (tape.length() + n > 60) return FULL;
        for (int i = 0; i < n; i++) tape += (char) bytes[i];
        return tape.length();
    }

    int add(int kind) {
        if (kind < 0 || kind > 2) return NONE;
        int number = 0;
        while (number < SLOTS[kind] && entries[kind][number] != null) number++;
        if (number == SLOTS[kind]) return FULL;
        String text = tape;
        tape = "";
        Matcher whole = FORMS[kind].matcher(text);
        if (!whole.matches()) return -100 - errorPosition(FORMS[kind], text);
        entries[kind][number] = whole;
        return number;
    }

    /** The first byte that ends a beginning with which no text goes on. */
    private static int errorPosition(Pattern form, String text) {
        for (int i = 0; i < text.length(); i++) {
            Matcher beginning = form.matcher(text.substring(0, i + 1));
            if (!beginning.matches() && !beginning.hitEnd()) return i;
        }
        return text.length();
    }

    int remove(int kind, int number) {
        if (kind < 0 || kind > 2 || !exists(kind, number)) return NONE;
        entries[kind][number] = null;
        if (kind == 0) {
            for (int series = 0; series < 12; series++) alerts[12 * number + series] = new Alert();
        }
        return entriesOf(kind);
    }

    private boolean exists(int kind, int number) {
        return number >= 0 && number < SLOTS[kind] && entries[kind][number] != null;
    }

    private int entriesOf(int kind) {
        int n = 0;
        for (Matcher entry : entries[kind]) if (entry != null) n++;
        return n;
    }

    int parameter(int what, int v) {
        if (what < 0 || what > 4) return NONE;
        if (v < LEAST[what] || v > MOST[what]) return BAD;
        int previous = parameters[what];
        parameters[what] = v;
        if (what == 4 && previous != v) open.clear();
        return previous;
    }

    int pass(int n) {
        if (n < 1 || n > 100) return BAD;
        if (minute + n > 99999) return FULL;
        return walk(n);
    }

    private int walk(int n) {
        int before = log.size();
        for (int i = 0; i < n; i++) step();
        return log.size() - before;
    }

    private void step() {
        minute++;
        for (int i = 0; i < 60; i++) {
            Alert alert = alerts[i];
            if (condition(i)) {
                if (alert.state == 0) {
                    alert.state = 1;
                    alert.since = minute;
                }
                if (alert.state == 1 && minute - alert.since >= number(0, i / 12, "wait")) {
                    alert.state = 2;
                    alert.since = minute;
                    alert.transitions.add(minute);
                }
            } else {
                if (alert.state == 2) alert.transitions.add(minute);
                alert.state = 0;
            }
        }
        TreeMap<Integer, Set<Integer>> groups = groups();
        for (int key = 0; key < 128; key++) {
            Set<Integer> members = groups.getOrDefault(key, Set.of());
            int kind = kindOf(open.get(key), members);
            if (kind >= 0) send(key, kind, members);
        }
    }

    private int kindOf(Sending last, Set<Integer> members) {
        if (!members.isEmpty() && last == null) return 0;
        if (last != null && !last.members.containsAll(members) && minute - last.minute >= parameters[0]) return 1;
        if (last != null && !members.isEmpty() && minute - last.minute >= parameters[1]) return 2;
        if (last != null && members.isEmpty()) return 3;
        return -1;
    }

    private void send(int key, int kind, Set<Integer> members) {
        if (kind == 3) open.remove(key);
        else open.put(key, new Sending(minute, members));
        log.add(new int[] {minute, key, kind, members.size(), greatestSeverity(members)});
    }

    private int greatestSeverity(Set<Integer> members) {
        int greatest = NOTHING;
        for (int i : members) greatest = Math.max(greatest, number(0, i / 12, "severity"));
        return greatest;
    }

    private int number(int kind, int entry, String part) {
        return Integer.parseInt(entries[kind][entry].group(part));
    }

    private boolean condition(int i) {
        Integer value = values[i % 12];
        if (!exists(0, i / 12) || value == null || !matches(0, i / 12, "first", i)) return false;
        int bound = number(0, i / 12, "bound");
        switch (entries[0][i / 12].group("sign")) {
            case "<": return value < bound;
            case ">": return value > bound;
            default: return value == bound;
        }
    }

    private boolean matches(int kind, int entry, String part, int i) {
        String matchers = entries[kind][entry].group(part);
        if (matchers == null) return true;
        for (String matcher : matchers.split(",")) {
            boolean not = matcher.startsWith("!");
            String plain = not ? matcher.substring(1) : matcher;
            if ((labelOf(i, plain.charAt(0)) == plain.charAt(1) - '0') == not) return false;
        }
        return true;
    }

    private int labelOf(int i, char letter) {
        if (letter == 's') return number(0, i / 12, "severity");
        return labels[i % 12]["thz".indexOf(letter)];
    }

    private Set<Integer> silencesOf(int i) {
        Set<Integer> silences = new TreeSet<>();
        for (int n = 0; n < 6; n++) {
            if (!exists(1, n) || !matches(1, n, "first", i)) continue;
            int from = number(1, n, "from");
            if (from <= minute && minute < from + number(1, n, "span")) silences.add(n);
        }
        return silences;
    }

    private Set<Integer> inhibitorsOf(int i) {
        Set<Integer> inhibitors = new TreeSet<>();
        if (alerts[i].state != 2) return inhibitors;
        for (int n = 0; n < 4; n++) {
            if (!exists(2, n) || !matches(2, n, "second", i)) continue;
            for (int other = 0; other < 60; other++) {
                if (other == i || alerts[other].state != 2 || !matches(2, n, "first", other)) continue;
                boolean same = true;
                for (char letter : entries[2][n].group("same").toCharArray()) {
                    if (labelOf(i, letter) != labelOf(other, letter)) same = false;
                }
                if (same) inhibitors.add(other);
            }
        }
        return inhibitors;
    }

    private int recentTransitions(int i) {
        List<Integer> all = alerts[i].transitions;
        int recent = 0;
        for (int at : all.subList(Math.max(0, all.size() - 20), all.size())) {
            if (at > minute - parameters[2]) recent++;
        }
        return recent;
    }

    private boolean flapping(int i) {
        return recentTransitions(i) >= parameters[3];
    }

    private boolean active(int i) {
        return alerts[i].state == 2 && silencesOf(i).isEmpty() && inhibitorsOf(i).isEmpty() && !flapping(i);
    }

    private int keyOf(int series) {
        int team = parameters[4] % 2 == 1 ? labels[series][0] : 0;
        int host = parameters[4] / 2 % 2 == 1 ? labels[series][1] : 0;
        int zone = parameters[4] / 4 == 1 ? labels[series][2] : 0;
        return 32 * team + 4 * host + zone;
    }

    private TreeMap<Integer, Set<Integer>> groups() {
        TreeMap<Integer, Set<Integer>> groups = new TreeMap<>();
        for (int i = 0; i < 60; i++) {
            if (active(i)) groups.computeIfAbsent(keyOf(i % 12), k -> new LinkedHashSet<>()).add(i);
        }
        return groups;
    }

    int alert(int rule, int series, int what) {
        if (!exists(0, rule) || series < 0 || series > 11) return NONE;
        int i = 12 * rule + series;
        switch (what) {
            case 0: return alerts[i].state;
            case 1: return alerts[i].state == 0 ? NOTHING : alerts[i].since;
            case 2: return silencesOf(i).isEmpty() ? 0 : 1;
            case 3: return inhibitorsOf(i).isEmpty() ? 0 : 1;
            case 4: return flapping(i) ? 1 : 0;
            case 5: return active(i) ? 1 : 0;
            case 6: return recentTransitions(i);
            case 7: return keyOf(series);
            case 8: return least(silencesOf(i));
            case 9: return least(inhibitorsOf(i));
            case 10: return condition(i) ? 1 : 0;
            default: return NONE;
        }
    }

    private static int least(Set<Integer> set) {
        return set.isEmpty() ? NOTHING : set.iterator().next();
    }

    long alerts(int what) {
        if (what < 0 || what > 6) return NONE;
        long set = 0;
        for (int i = 0; i < 60; i++) {
            if (isIn(what, i)) set |= 1L << i;
        }
        return set;
    }

    private boolean isIn(int what, int i) {
        boolean firing = alerts[i].state == 2;
        switch (what) {
            case 0: return alerts[i].state == 1;
            case 1: return firing;
            case 2: return firing && !silencesOf(i).isEmpty();
            case 3: return firing && !inhibitorsOf(i).isEmpty();
            case 4: return firing && flapping(i);
            case 5: return active(i);
            default: return condition(i);
        }
    }

    int group(int key, int what) {
        if (key < 0 || key > 127 || what < 0 || what > 4) return NONE;
        Sending last = open.get(key);
        Set<Integer> members = groups().getOrDefault(key, Set.of());
        switch (what) {
            case 0: return last == null ? 0 : 1;
            case 1: return last == null ? NOTHING : last.minute;
            case 2: return members.size();
            case 3: return (int) members.stream().filter(i -> last == null || !last.members.contains(i)).count();
            default: return nextMinute(last, members);
        }
    }

    /** Tries the minutes one by one. */
    private int nextMinute(Sending last, Set<Integer> members) {
        Model later = new Model();
        later.parameters = parameters;
        for (later.minute = minute + 1; later.minute <= minute + 1000; later.minute++) {
            if (later.kindOf(last, members) >= 0) return later.minute;
        }
        return NOTHING;
    }

    int key(int i) {
        List<Integer> keys = new ArrayList<>(groups().keySet());
        if (i == -1) return keys.size();
        return i >= 0 && i < keys.size() ? keys.get(i) : NONE;
    }

    int sent(int i, int what) {
        if (i < 0 || i >= Math.min(30, log.size()) || what < 0 || what > 4) return NONE;
        return log.get(log.size() - 1 - i)[what];
    }

    int ahead(int n) {
        return n < 1 || n > 100 ? BAD : copy().walk(n);
    }

    int next(int n) {
        if (n < 1 || n > 100) return BAD;
        Model later = copy();
        for (int i = 0; i < n; i++) {
            if (later.walk(1) > 0) return later.minute;
        }
        return NOTHING;
    }

    int saved(int silence, int n) {
        if (!exists(1, silence)) return NONE;
        if (n < 1 || n > 100) return BAD;
        Model without = copy();
        without.entries[1][silence] = null;
        return without.walk(n) - copy().walk(n) + 1000;
    }

    int image() {
        snapshot = copy();
        return minute;
    }

    int undo() {
        if (snapshot == null) return STATE;
        take(snapshot);
        return minute;
    }

    int count(int what) {
        if (what >= 10 && what <= 14) return parameters[what - 10];
        switch (what) {
            case 0: return minute;
            case 1: case 2: case 3: return entriesOf(what - 1);
            case 4: return (int) java.util.Arrays.stream(values).filter(v -> v != null).count();
            case 5: return log.size();
            case 6: return open.size();
            case 7: return greatestActiveSeverity();
            case 8: return silencesInUse();
            case 9: return tape.length();
            default: return NONE;
        }
    }

    private int greatestActiveSeverity() {
        Set<Integer> active = new TreeSet<>();
        for (Map.Entry<Integer, Set<Integer>> group : groups().entrySet()) active.addAll(group.getValue());
        return greatestSeverity(active);
    }

    private int silencesInUse() {
        Set<Integer> used = new TreeSet<>();
        for (int i = 0; i < 60; i++) {
            if (alerts[i].state == 2) used.addAll(silencesOf(i));
        }
        return used.size();
    }
}
