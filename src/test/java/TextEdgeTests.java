/** The boundary cases of the texts that add takes, and of the tape that they stand on. */
public final class TextEdgeTests extends Edges {
    private static final String DIGITS = "0123456789", SIGNS = "<>=";

    private TextEdgeTests() {
    }

    public static void main(String[] args) {
        holds(DESCRIPTION, "There are at most 5 rules, 6 silences and 4 inhibitions", TextEdgeTests::mostOfEachKind);
        holds(DESCRIPTION, "each kind numbered from 0; a new one gets the lowest number that is free", TextEdgeTests::lowestFree);
        holds(DESCRIPTION, "rule = [ matchers \":\" ] ( \"<\" | \">\" | \"=\" ) [ \"-\" ] number \"for\" number \"sev\" severity",
            TextEdgeTests::ruleBytes);
        holds(DESCRIPTION, "silence = matchers \"@\" number \"+\" number", TextEdgeTests::silenceBytes);
        holds(DESCRIPTION, "inhibition = matchers \">\" matchers \"/\" { \"t\" | \"h\" | \"z\" }", TextEdgeTests::inhibitionBytes);
        holds(DESCRIPTION, "matchers = matcher { \",\" matcher }", TextEdgeTests::matcherBytes);
        holds(DESCRIPTION, "matcher = [ \"!\" ] ( \"t\" digit | \"h\" digit | \"z\" digit | \"s\" digit )", TextEdgeTests::eachMatcherIsRead);
        holds(DESCRIPTION, "They are added by texts of the following forms, without spaces", TextEdgeTests::spaces);
        holds(DESCRIPTION, "A number has 1 to 4 digits", TextEdgeTests::lengthsOfNumbers);
        holds(DESCRIPTION, "without leading zeros unless it is 0", TextEdgeTests::leadingZeros);
        holds(DESCRIPTION, "a severity is a digit 0 to 3", TextEdgeTests::severities);
        holds(DESCRIPTION, "A digit in a matcher is 0 to 3 after t, z and s and 0 to 7 after h", TextEdgeTests::matcherDigits);
        holds(DESCRIPTION, "matchers with s cannot stand in a rule", TextEdgeTests::severityInRule);
        holds(DESCRIPTION, "There are at most 4 matchers in one sequence of matchers.", TextEdgeTests::fourMatchers);
        holds(DESCRIPTION, "A fifth matcher is wrong at the comma ahead of it.", TextEdgeTests::fifthMatcher);
        holds(DESCRIPTION, "the index of its first byte with which no text of its kind can continue", TextEdgeTests::firstWrongByte);
        holds(DESCRIPTION, "or its length if it ends too early", TextEdgeTests::endsTooEarly);
        holds(DESCRIPTION, "A bound can be -0, which is 0", TextEdgeTests::minusZero);
        holds(DESCRIPTION, "a label can stand twice behind the /", TextEdgeTests::labelTwice);
        holds(5, "Appends bytes to the tape, which holds at most 60 bytes.", TextEdgeTests::sixtyBytes);
        holds(6, "The tape is emptied, also if the text is wrong.", TextEdgeTests::emptiedTape);
        holds(6, "0 for a rule, 1 for a silence, 2 for an inhibition", TextEdgeTests::kinds);
        holds(6, "NONE if kind is invalid, FULL if there are as many of this kind as there can be, and in both cases the tape is not emptied",
            TextEdgeTests::keptTape);
        holds(6, "-100 minus the error position if the text is wrong", TextEdgeTests::errorAnswers);
        holds(DESCRIPTION, "except that add empties the tape if the text is wrong", TextEdgeTests::wrongTextChangesNoMore);
        Check.end("TextEdgeTests");
    }

    private static final String[] TEXTS = {"=1for0sev0", "s0@1+1", "s0>s1/"};
    private static final int[] MOST = {5, 6, 4};

    private static AlertEngine full() {
        AlertEngine x = new AlertEngine();
        for (int kind = 0; kind < 3; kind++) {
            for (int i = 0; i < MOST[kind]; i++) add(x, kind, TEXTS[kind]);
        }
        return x;
    }

    private static void mostOfEachKind() {
        for (int kind = 0; kind < 3; kind++) {
            AlertEngine x = new AlertEngine();
            for (int i = 0; i < MOST[kind]; i++) due("add " + i, add(x, kind, TEXTS[kind]), i);
            due("all of them", x.count(1 + kind), MOST[kind]);
            due("one more", add(x, kind, TEXTS[kind]), FULL);
            due("still all of them", x.count(1 + kind), MOST[kind]);
            for (int other = 0; other < 3; other++) {
                if (other != kind) due("another kind is not full", x.count(1 + other), 0);
            }
        }
        AlertEngine x = full();
        for (int kind = 0; kind < 3; kind++) due("every kind full at once", x.count(1 + kind), MOST[kind]);
    }

    private static void lowestFree() {
        for (int kind = 0; kind < 3; kind++) {
            for (int free = 0; free < MOST[kind]; free++) {
                AlertEngine x = full();
                due("remove", x.remove(kind, free), MOST[kind] - 1);
                due("the one that is free", add(x, kind, TEXTS[kind]), free);
                x.remove(kind, MOST[kind] - 1);
                if (free < MOST[kind] - 1) x.remove(kind, free);
                due("the lower of two", add(x, kind, TEXTS[kind]), free);
            }
            AlertEngine x = full();
            for (int i = 0; i < MOST[kind]; i++) x.remove(kind, i);
            for (int i = 0; i < MOST[kind]; i++) due("from 0 again", add(x, kind, TEXTS[kind]), i);
        }
    }

    /**
     * Every byte behind the beginning of a text: those with which the text goes on but is not whole,
     * those with which it is whole, and all the others, which are wrong there.
     */
    private static void next(int kind, String beginning, String more, String whole) {
        for (int b = 0; b < 128; b++) {
            String text = beginning + (char) b;
            boolean wrong = more.indexOf(b) < 0 && whole.indexOf(b) < 0;
            int want = wrong ? -100 - beginning.length() : whole.indexOf(b) < 0 ? -100 - text.length() : 0;
            due(text + " (its last byte is " + b + ")", add(new AlertEngine(), kind, text), want);
        }
    }

    private static void ruleBytes() {
        next(RULE, "", SIGNS + "!thz", "");
        next(RULE, "t1:", SIGNS, "");
        next(RULE, "t1,h7,!z3,t0:", SIGNS, "");
        for (String sign : new String[] {"<", ">", "=", "h0:<", "h0:>", "h0:="}) {
            next(RULE, sign, DIGITS + "-", "");
            next(RULE, sign + "-", DIGITS, "");
            next(RULE, sign + "0", "f", "");
            next(RULE, sign + "-0", "f", "");
            next(RULE, sign + "7", DIGITS + "f", "");
            next(RULE, sign + "-70", DIGITS + "f", "");
            next(RULE, sign + "700", DIGITS + "f", "");
            next(RULE, sign + "-7000", "f", "");
        }
        next(RULE, "<1f", "o", "");
        next(RULE, "<1fo", "r", "");
        next(RULE, "<1for", DIGITS, "");
        next(RULE, "<1for0", "s", "");
        next(RULE, "<1for9", DIGITS + "s", "");
        next(RULE, "<1for90", DIGITS + "s", "");
        next(RULE, "<1for900", DIGITS + "s", "");
        next(RULE, "<1for9000", "s", "");
        next(RULE, "<1for9s", "e", "");
        next(RULE, "<1for9se", "v", "");
        next(RULE, "<1for9sev", "", "0123");
        next(RULE, "<1for9sev0", "", "");
        next(RULE, "!t1,!h7:=-9999for9999sev3", "", "");
    }

    private static void silenceBytes() {
        next(SILENCE, "t0", ",@", "");
        next(SILENCE, "t0@", DIGITS, "");
        next(SILENCE, "t0@0", "+", "");
        next(SILENCE, "t0@1", DIGITS + "+", "");
        next(SILENCE, "t0@12", DIGITS + "+", "");
        next(SILENCE, "t0@123", DIGITS + "+", "");
        next(SILENCE, "t0@1234", "+", "");
        next(SILENCE, "t0@1234+", "", DIGITS);
        next(SILENCE, "t0@0+0", "", "");
        next(SILENCE, "t0@0+9", "", DIGITS);
        next(SILENCE, "t0@0+98", "", DIGITS);
        next(SILENCE, "t0@0+987", "", DIGITS);
        next(SILENCE, "t0@0+9876", "", "");
    }

    private static void inhibitionBytes() {
        next(INHIBITION, "t0", ",>", "");
        next(INHIBITION, "t0>", "!thzs", "");
        next(INHIBITION, "t0>s1", ",", "/");
        next(INHIBITION, "t0>s1/", "", "thz");
        next(INHIBITION, "t0>s1/t", "", "thz");
        next(INHIBITION, "t0>s1/thz", "", "thz");
        due("no letter behind the /", add(new AlertEngine(), INHIBITION, "t0>s1/"), 0);
    }

    private static void matcherBytes() {
        String[] rightBehind = {":", "@", ">"};
        for (int kind = 0; kind < 3; kind++) {
            String letters = kind == RULE ? "!thz" : "!thzs";
            String first = kind == RULE ? SIGNS : "";
            next(kind, "", letters + first, "");
            next(kind, "t0,", letters, "");
            next(kind, "t0", "," + rightBehind[kind], "");
            next(kind, "t0,!h7", "," + rightBehind[kind], "");
            next(kind, "t0,!h7,", letters, "");
            next(kind, "t0,!h7,z1", "," + rightBehind[kind], "");
            next(kind, "t0,!h7,z1,!t3", rightBehind[kind], "");
        }
        next(INHIBITION, "t0>s1,", "!thzs", "");
        next(INHIBITION, "t0>s1,t1,t1", ",", "/");
        next(INHIBITION, "t0>s1,t1,t1,t1", "", "/");
        next(INHIBITION, "t0,t0,t0,t0>s1,t1,t1", ",", "/");
    }

    private static void eachMatcherIsRead() {
        for (int kind = 0; kind < 3; kind++) {
            String letters = kind == RULE ? "thz" : "thzs";
            for (String beginning : new String[] {"", "t1,"}) {
                next(kind, beginning + "!", letters, "");
                for (char letter : letters.toCharArray()) {
                    String digits = letter == 'h' ? "01234567" : "0123";
                    next(kind, beginning + letter, digits, "");
                    next(kind, beginning + "!" + letter, digits, "");
                }
            }
        }
    }

    private static void spaces() {
        String[] texts = {"!t0,h1:<-12for3sev1", "t0,!s1@12+3", "t0,z1>!s1,h2/tz"};
        for (int kind = 0; kind < 3; kind++) {
            due(texts[kind], add(new AlertEngine(), kind, texts[kind]), 0);
            for (int at = 0; at <= texts[kind].length(); at++) {
                String text = texts[kind].substring(0, at) + " " + texts[kind].substring(at);
                due(text, add(new AlertEngine(), kind, text), -100 - at);
            }
        }
    }

    private static void lengthsOfNumbers() {
        String[] numbers = {"", "1", "12", "123", "1234", "12345"};
        String[][] places = {{"<", "for1sev1"}, {"<-", "for1sev1"}, {"<1for", "sev1"}, {"s1@", "+1"}, {"s1@1+", ""}};
        for (int place = 0; place < places.length; place++) {
            int kind = place < 3 ? RULE : SILENCE;
            for (int digits = 0; digits < numbers.length; digits++) {
                String text = places[place][0] + numbers[digits] + places[place][1];
                int wrongAt = places[place][0].length() + (digits == 0 ? 0 : 4);
                due(text, add(new AlertEngine(), kind, text), digits >= 1 && digits <= 4 ? 0 : -100 - wrongAt);
            }
        }
        long[] bounds = {0, 9, 10, 99, 100, 999, 1000, 9999};
        for (long bound : bounds) {
            AlertEngine x = withRules("=" + bound + "for0sev0", "=-" + bound + "for0sev0");
            x.sample(0, (int) bound);
            x.sample(1, (int) -bound);
            due("means " + bound, x.alerts(6), bound == 0 ? 3 | 3 << 12 : 1 | 2 << 12);
        }
    }

    private static void leadingZeros() {
        String[] wrong = {"00", "01", "000", "0000", "09", "0123"};
        String[][] places = {{"<", "for1sev1"}, {"<-", "for1sev1"}, {"<1for", "sev1"}, {"s1@", "+1"}, {"s1@1+", ""}};
        for (int place = 0; place < places.length; place++) {
            int kind = place < 3 ? RULE : SILENCE;
            String ahead = places[place][0];
            due("0 itself", add(new AlertEngine(), kind, ahead + "0" + places[place][1]), 0);
            due("zeros that do not lead", add(new AlertEngine(), kind, ahead + "1000" + places[place][1]), 0);
            for (String number : wrong) {
                String text = ahead + number + places[place][1];
                due(text, add(new AlertEngine(), kind, text), -100 - ahead.length() - 1);
            }
        }
    }

    private static void severities() {
        for (int severity = 0; severity <= 9; severity++) {
            AlertEngine x = new AlertEngine();
            String text = "=0for0sev" + severity;
            due(text, add(x, RULE, text), severity <= 3 ? 0 : -109);
            x.sample(0, 0);
            x.pass(1);
            due("greatest severity", x.count(7), severity <= 3 ? severity : NOTHING);
        }
        due("two digits", add(new AlertEngine(), RULE, "=0for0sev10"), -110);
        due("none", add(new AlertEngine(), RULE, "=0for0sev"), -109);
        due("below 0", add(new AlertEngine(), RULE, "=0for0sev-1"), -109);
    }

    private static void matcherDigits() {
        for (char letter : "thzs".toCharArray()) {
            int greatest = letter == 'h' ? 7 : 3;
            for (int digit = 0; digit <= 9; digit++) {
                String matcher = letter + "" + digit;
                boolean right = digit <= greatest;
                if (letter != 's') {
                    due("rule with " + matcher, add(new AlertEngine(), RULE, matcher + ":=0for0sev0"), right ? 0 : -101);
                    due("rule with !" + matcher, add(new AlertEngine(), RULE, "!" + matcher + ":=0for0sev0"), right ? 0 : -102);
                }
                due("silence with " + matcher, add(new AlertEngine(), SILENCE, matcher + "@0+0"), right ? 0 : -101);
                due("silence with !" + matcher, add(new AlertEngine(), SILENCE, "!" + matcher + "@0+0"), right ? 0 : -102);
                due("first with " + matcher, add(new AlertEngine(), INHIBITION, matcher + ">t0/"), right ? 0 : -101);
                due("second with " + matcher, add(new AlertEngine(), INHIBITION, "t0>!" + matcher + "/"), right ? 0 : -105);
                due("two digits", add(new AlertEngine(), SILENCE, matcher + "0@0+0"), right ? -102 : -101);
            }
        }
    }

    private static void severityInRule() {
        String[] wrong = {"s0:=0for0sev0", "!s0:=0for0sev0", "t0,s0:=0for0sev0", "t0,!s0:=0for0sev0", "t0,t0,t0,s3:=0for0sev0"};
        int[] at = {0, 1, 3, 4, 9};
        for (int i = 0; i < wrong.length; i++) due(wrong[i], add(new AlertEngine(), RULE, wrong[i]), -100 - at[i]);
        due("in a silence", add(new AlertEngine(), SILENCE, "s0,s1,!s2,s3@0+0"), 0);
        due("in an inhibition", add(new AlertEngine(), INHIBITION, "s0,s1,!s2,s3>s3,!s2,s1,s0/"), 0);
    }

    /** Four matchers can stand, and the fourth one counts as the others do. */
    private static void fourMatchers() {
        AlertEngine x = withRules("t0,h0,z0,!h7:=0for0sev0", "!t1,!z1,!h1,t2:=0for0sev0", "=0for0sev2");
        due("silence", add(x, SILENCE, "s2,t0,h0,z1@0+9"), 0);
        due("inhibition", add(x, INHIBITION, "s0,t0,h0,z0>s2,h0,t0,z2/"), 0);
        x.sample(0, 0);
        x.sample(1, 0);
        x.label(1, 2, 1);
        x.sample(2, 0);
        x.label(2, 2, 2);
        x.sample(3, 0);
        x.label(3, 0, 2);
        x.pass(1);
        due("the fourth matcher of a rule", x.alerts(1), 1 | 8 << 12 | 15 << 24);
        due("of a silence", x.alerts(2), 2 << 24);
        due("of an inhibition", x.alerts(3), 4 << 24);
        due("of its causes", x.alert(2, 2, 9), 0);
        x.label(0, 2, 3);
        due("the fourth cause matcher", x.alerts(3), 0);
    }

    private static void fifthMatcher() {
        String four = "t0,!h1,z2,!t3", fourAtOnce = "t0,t0,t0,t0";
        String[] behind = {":=0for0sev0", "@0+0", ">s0/"};
        for (int kind = 0; kind < 3; kind++) {
            due("four", add(new AlertEngine(), kind, four + behind[kind]), 0);
            due("a fifth", add(new AlertEngine(), kind, four + ",t0" + behind[kind]), -100 - four.length());
            due("a fifth like the others", add(new AlertEngine(), kind, fourAtOnce + ",t0" + behind[kind]), -111);
            due("only the comma", add(new AlertEngine(), kind, four + ","), -100 - four.length());
            due("ends ahead of the comma", add(new AlertEngine(), kind, four), -100 - four.length());
        }
        due("second matchers", add(new AlertEngine(), INHIBITION, "s0>" + four + ",t0/"), -103 - four.length());
        due("eight in all", add(new AlertEngine(), INHIBITION, four + ">" + four + "/"), 0);
        due("a ninth", add(new AlertEngine(), INHIBITION, four + ">" + four + ",s0/"), -101 - 2 * four.length());
    }

    /** What follows the first wrong byte does not matter, be it right in itself, wrong too, or nothing. */
    private static void firstWrongByte() {
        String[] texts = {"!t0,h1:<-12for34sev1", "t0,!s1@12+34", "t0,z1>!s1,h2/tz"};
        String[] behind = {"", "x", ":", "0", "t0", "for1sev1", "\0\0", "/thz"};
        for (int kind = 0; kind < 3; kind++) {
            for (int at = 0; at <= texts[kind].length(); at++) {
                for (String more : behind) {
                    String text = texts[kind].substring(0, at) + "x" + more;
                    due(text, add(new AlertEngine(), kind, text), -100 - at);
                }
            }
        }
        due("a rule as a silence", add(new AlertEngine(), SILENCE, "t0:=0for0sev0"), -102);
        due("a silence as a rule", add(new AlertEngine(), RULE, "t0@0+0"), -102);
        due("an inhibition as a rule", add(new AlertEngine(), RULE, "t0>t0/"), -102);
        due("a silence as an inhibition", add(new AlertEngine(), INHIBITION, "t0@0+0"), -102);
        String longest = "t0,t0,t0,t0>t0,t0,t0,t0/" + "thz".repeat(11) + "th";
        due("wrong at byte 59", add(new AlertEngine(), INHIBITION, longest + "s"), -159);
    }

    private static void endsTooEarly() {
        String[] texts = {"!t0,h1,!z2,t3:<-1234for5678sev1", "!t0,h1,!z2,s3@1234+5", "!t0,h1,!z2,s3>s0,!z1,h2,!t3/"};
        for (int kind = 0; kind < 3; kind++) {
            for (int length = 0; length < texts[kind].length(); length++) {
                String text = texts[kind].substring(0, length);
                due(text, add(new AlertEngine(), kind, text), -100 - length);
            }
            due(texts[kind], add(new AlertEngine(), kind, texts[kind]), 0);
        }
    }

    private static void minusZero() {
        AlertEngine x = withRules("=-0for0sev0", "<-0for0sev0", ">-0for0sev0", "t0:=-0for0sev0");
        x.sample(0, -1);
        x.sample(1, 0);
        x.sample(2, 1);
        due("as 0", x.alerts(6), 2 | 1 << 12 | 4 << 24 | 2L << 36);
        due("no zero behind it", add(x, RULE, "=-00for0sev0"), -103);
        due("in no other number", add(x, RULE, "=0for-0sev0"), -105);
        due("nor in a silence", add(x, SILENCE, "t0@-0+0"), -103);
        due("nor in its length", add(x, SILENCE, "t0@0+-0"), -105);
    }

    private static void labelTwice() {
        String[] letters = {"tt", "hh", "zz", "tht", "thzthz", "zzzzzzzzzz"};
        for (String twice : letters) {
            AlertEngine x = withRules("=0for0sev3", "=0for0sev0");
            due(twice, add(x, INHIBITION, "s3>s0/" + twice), 0);
            x.sample(0, 0);
            x.pass(1);
            due("still the same label", x.alerts(3), 1 << 12);
            x.sample(1, 0);
            for (int label = 0; label < 3; label++) x.label(1, label, 1);
            x.drop(0);
            x.pass(1);
            due("of the same series", x.alerts(3), 2 << 12);
            x.sample(0, 0);
            x.remove(RULE, 0);
            add(x, RULE, "t0:=0for0sev3");
            x.pass(1);
            due("another label", x.alerts(3), 1 << 12);
        }
    }

    private static void sixtyBytes() {
        AlertEngine x = new AlertEngine();
        for (int length = 5; length <= 60; length += 5) due("feed", x.feed(5, 't', 't', 't', 't', 't'), length);
        for (int n = 1; n <= 5; n++) due("one more", x.feed(n, 't', 't', 't', 't', 't'), FULL);
        due("bytes", x.count(9), 60);
        for (int n = 1; n <= 5; n++) {
            AlertEngine y = new AlertEngine();
            for (int length = 5; length <= 55; length += 5) y.feed(5, 't', 't', 't', 't', 't');
            y.feed(5 - n, 't', 't', 't', 't', 't');
            due("exactly 60", n == 5 ? y.feed(5, 'a', 'b', 'c', 'd', 'e') : y.feed(n, 'a', 'b', 'c', 'd', 'e'), 60);
        }
        String text = "!t0,!h1,!z2,!s3>!s0,!t1,!h2,!z3/" + "thz".repeat(9) + "t";
        due("a text of 60 bytes", text.length(), 60);
        due("is read whole", add(x = new AlertEngine(), INHIBITION, text), 0);
        due("and the tape is empty", x.count(9), 0);
    }

    private static void emptiedTape() {
        String[][] texts = {{"=0for0sev0", "=0for0sevx", "=0for0sev", ""}, {"t0@0+0", "t0@0+x", "t0@0+", ""}, {"t0>t0/", "t0>t0x", "t0>t0", ""}};
        for (int kind = 0; kind < 3; kind++) {
            for (String text : texts[kind]) {
                AlertEngine x = new AlertEngine();
                boolean right = text.equals(texts[kind][0]);
                due(text, add(x, kind, text) >= 0 ? 1 : 0, right ? 1 : 0);
                due("tape", x.count(9), 0);
                due("nothing is left of it", add(x, kind, texts[kind][0]), right ? 1 : 0);
            }
        }
    }

    private static void kinds() {
        for (int kind = 0; kind < 3; kind++) {
            AlertEngine x = new AlertEngine();
            due("add", add(x, kind, TEXTS[kind]), 0);
            for (int other = 0; other < 3; other++) due("count " + other, x.count(1 + other), other == kind ? 1 : 0);
        }
    }

    private static void keptTape() {
        for (int kind : outside(0, 2)) {
            AlertEngine x = full();
            Check.feed(x, "t0@7+8");
            due("kind " + kind, x.add(kind), NONE);
            due("bytes", x.count(9), 6);
            x.remove(SILENCE, 3);
            due("the same bytes", x.add(SILENCE), 3);
        }
        for (int kind = 0; kind < 3; kind++) {
            for (String text : new String[] {TEXTS[kind], "", "wrong"}) {
                AlertEngine x = full();
                Check.feed(x, text);
                due("full with " + text, x.add(kind), FULL);
                due("bytes", x.count(9), text.length());
                x.remove(kind, 1);
                due("the same bytes", x.add(kind), text.equals(TEXTS[kind]) ? 1 : -100);
            }
        }
    }

    private static void errorAnswers() {
        for (int kind = 0; kind < 3; kind++) {
            due("an empty tape", new AlertEngine().add(kind), -100);
            due("byte 0", add(new AlertEngine(), kind, "\0"), -100);
            due("byte 127", add(new AlertEngine(), kind, "t0\177"), -102);
            due("60 bytes", add(new AlertEngine(), kind, "t0,".repeat(20)), -111);
        }
    }

    private static void wrongTextChangesNoMore() {
        String[] wrong = {"=5for0sev", "t1@0+", "s0>s0"};
        for (int kind = 0; kind < 3; kind++) {
            AlertEngine x = withRules("=5for0sev0", "=5for3sev0");
            add(x, SILENCE, "t1@0+50");
            add(x, INHIBITION, "z1>z2/");
            x.sample(0, 5);
            x.pass(2);
            due("wrong", add(x, kind, wrong[kind]), -100 - wrong[kind].length());
            long[] want = {2, 2, 1, 1, 1, 1, 1, 0, 0, 0};
            for (int what = 0; what < want.length; what++) due("count " + what, x.count(what), want[what]);
            due("pending", x.alerts(0), 1 << 12);
            due("firing", x.alerts(1), 1);
            due("the number is still free", add(x, kind, TEXTS[kind]), kind == RULE ? 2 : 1);
        }
    }
}
