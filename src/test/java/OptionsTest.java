/** Terms: OPTIONS, where their contents are found, and when a rule HOLDS. */
public final class OptionsTest {
    private static final int NO_CASE = 1;
    private static final int NOT = 2;
    private static final int RELATIVE = 4;

    public static void main(String[] args) {
        everySizeOfContent();
        contents();
        cases();
        absolutePlaces();
        relativePlaces();
        everyLeastAndSpan();
        everyLeastAndSpanRelative();
        spanZero();
        baseWithoutOneBefore();
        basesOfOtherRules();
        placesOfOtherTexts();
        placesNeedNotRise();
        nots();
        choices();
        bigTexts();
        Due.end();
    }

    /** One option: content, marks, least, span. */
    private record Opt(String content, int marks, int least, int span) {
    }

    private static Opt opt(String content, int marks, int least, int span) {
        return new Opt(content, marks, least, span);
    }

    private static void addRule(StreamWatch x, Opt... options) {
        x.rule(0, 0);
        for (Opt one : options) {
            Talk.option(x, one.content, one.marks, one.least, one.span);
        }
    }

    /** How many bytes the text had when the rule raised an alert, 0 if it raised none. */
    private static int raisedAt(String text, Opt... options) {
        StreamWatch x = Talk.opened(0);
        addRule(x, options);
        Talk.sendAll(x, 1, text);
        return x.alerts() == 0 ? 0 : x.alert(0, 3);
    }

    /** As raisedAt, but only from the last byte of the text on. */
    private static int raisedAtEnd(String text, Opt... options) {
        StreamWatch x = Talk.opened(0);
        Talk.sendAll(x, 1, text.substring(0, text.length() - 1));
        addRule(x, options);
        Talk.send(x, 0, 0, text.length(), Talk.ACK, text.substring(text.length() - 1));
        return x.alerts() == 0 ? 0 : x.alert(0, 3);
    }

    /** "An option is a CONTENT of 1 to 6 bytes" */
    private static void everySizeOfContent() {
        for (int n = 1; n <= 6; n++) {
            String content = "abcdef".substring(0, n);
            Due.is(n + " bytes", raisedAt("--" + content + "--", opt(content, 0, 0, 0)), n + 2);
            Due.is(n + " bytes are the whole text", raisedAt(content, opt(content, 0, 0, n)), n);
            Due.is("a byte is missing", raisedAt("--" + content.substring(1), opt(content, 0, 0, 0)), 0);
            Due.is("the last is missing", raisedAt("--" + content.substring(0, n - 1),
                    opt(content, 0, 0, 0)), 0);
            for (int i = 0; i < n; i++) {
                String wrong = content.substring(0, i) + "X" + content.substring(i + 1);
                Due.is("byte " + i + " is another", raisedAt(wrong, opt(content, 0, 0, 0)), 0);
            }
        }
    }

    private static void contents() {
        Due.is("byte 0", raisedAt("a\0b", opt("\0", 0, 0, 0)), 2);
        Due.is("byte 255", raisedAt("a\u00ffb", opt("\u00ffb", 0, 0, 0)), 3);
        Due.is("it comes again", raisedAt("abcdeabcdef", opt("abcdef", 0, 0, 0)), 11);
        Due.is("over itself", raisedAt("aabaab", opt("abaab", 0, 0, 0)), 6);
    }

    /** "(without it letters a .. z are the same as A .. Z)" */
    private static void cases() {
        Due.is("with case", raisedAt("GeT get", opt("get", 0, 0, 0)), 7);
        Due.is("without case", raisedAt("GeT get", opt("get", NO_CASE, 0, 0)), 3);
        Due.is("without case, great content", raisedAt("GeT get", opt("GET", NO_CASE, 0, 0)), 3);
        for (char c = 0; c < 256; c++) {
            String one = String.valueOf(c);
            String other = String.valueOf((char) (c ^ 32));
            boolean letter = c >= 'a' && c <= 'z' || c >= 'A' && c <= 'Z';
            Due.is(c + " 0 with case", raisedAt(one, opt(one, 0, 0, 0)), 1);
            Due.is(c + " 1 with case", raisedAt(one, opt(other, 0, 0, 0)), 0);
            Due.is(c + " 0 without case", raisedAt(one, opt(one, NO_CASE, 0, 0)), 1);
            Due.is(c + " 1 without case", raisedAt(one, opt(other, NO_CASE, 0, 0)), letter ? 1 : 0);
        }
        Due.is("one option without, one with", raisedAt("AB", opt("a", NO_CASE, 0, 0),
                opt("b", 0, 0, 0)), 0);
        Due.is("another letter", raisedAt("AZ", opt("b", NO_CASE, 0, 0)), 0);
    }

    private static void absolutePlaces() {
        Due.is("least", raisedAt("abxab", opt("ab", 0, 1, 0)), 5);
        Due.is("least is the place", raisedAt("xab", opt("ab", 0, 1, 0)), 3);
        Due.is("span", raisedAt("xxab", opt("ab", 0, 0, 4)), 4);
        Due.is("span too small", raisedAt("xxab", opt("ab", 0, 0, 3)), 0);
        Due.is("span with least", raisedAt("xxab", opt("ab", 0, 2, 2)), 4);
        Due.is("span with least", raisedAt("xxab", opt("ab", 0, 1, 3)), 4);
        Due.is("span with least too small", raisedAt("xxab", opt("ab", 0, 1, 2)), 0);
        Due.is("span less than the content", raisedAt("abab", opt("ab", 0, 0, 1)), 0);
        Due.is("least below 0", raisedAt("xab", opt("ab", 0, -1, 4)), 3);
        Due.is("least below 0, span too small", raisedAt("xab", opt("ab", 0, -2, 4)), 0);
        Due.is("absolute behind another", raisedAt("cdab", opt("ab", 0, 0, 0), opt("cd", 0, 0, 2)), 4);
        Due.is("absolute without case", raisedAt("CDab", opt("ab", 0, 0, 0),
                opt("cd", NO_CASE, 0, 2)), 4);
        Due.is("least 80", raisedAt("a".repeat(80), opt("a", 0, 80, 0)), 0);
        Due.is("least 79", raisedAt("a".repeat(80), opt("a", 0, 79, 0)), 80);
    }

    private static void relativePlaces() {
        Due.is("none before it", raisedAt("xab", opt("ab", RELATIVE, 1, 2)), 3);
        Due.is("just behind", raisedAt("abcd", opt("ab", 0, 0, 0), opt("cd", RELATIVE, 0, 2)), 4);
        Due.is("not just behind", raisedAt("abxcd", opt("ab", 0, 0, 0), opt("cd", RELATIVE, 0, 2)), 0);
        Due.is("one between", raisedAt("abxcd", opt("ab", 0, 0, 0), opt("cd", RELATIVE, 1, 2)), 5);
        Due.is("before it", raisedAt("cdab", opt("ab", 0, 0, 0), opt("cd", RELATIVE, 0, 0)), 0);
        Due.is("before it, least -4", raisedAt("cdab", opt("ab", 0, 0, 0), opt("cd", RELATIVE, -4, 0)), 4);
        Due.is("before it, least -3", raisedAt("cdab", opt("ab", 0, 0, 0), opt("cd", RELATIVE, -3, 0)), 0);
        Due.is("over it", raisedAt("abc", opt("ab", 0, 0, 0), opt("bc", RELATIVE, -1, 2)), 3);
        Due.is("behind a NOT", raisedAt("abcd", opt("ab", 0, 0, 0), opt("x", NOT, 0, 0),
                opt("cd", RELATIVE, 0, 2)), 4);
        Due.is("behind an absolute one", raisedAt("abcdef", opt("ab", 0, 0, 0), opt("ef", 0, 0, 0),
                opt("cd", RELATIVE, -4, 2)), 6);
        Due.is("the nearest one alone", raisedAt("abcdef", opt("ab", 0, 0, 0), opt("ef", 0, 0, 0),
                opt("cd", RELATIVE, 0, 2)), 0);
    }

    /** Whether it is found at p by the words of the document, for a text that has it once. */
    private static boolean isFound(int p, int base, int n, int least, int span) {
        boolean notTooLow = least <= p - base;
        boolean notTooHigh = span == 0 || p - base + n <= least + span;
        return notTooLow && notTooHigh;
    }

    /** "LEAST is at most p - base and p - base + its length at most LEAST + SPAN, base being 0" */
    private static void everyLeastAndSpan() {
        String text = "0123456789ab";
        for (int least = -14; least <= 14; least++) {
            for (int span = 0; span <= 28; span++) {
                String what = "LEAST " + least + ", SPAN " + span;
                boolean found = isFound(7, 0, 3, least, span);
                Due.is(what + ", absolute", raisedAt(text, opt("789", 0, least, span)) != 0, found);
                Due.is(what + ", relative, none before", raisedAt(text,
                        opt("789", RELATIVE, least, span)) != 0, found);
                Due.is(what + ", absolute, one before", raisedAt(text, opt("34", 0, 0, 0),
                        opt("789", 0, least, span)) != 0, found);
                Due.is(what + ", NOT", raisedAtEnd(text, opt("b", 0, 0, 0),
                        opt("789", NOT, least, span)) != 0, !found);
            }
        }
    }

    /** ", or (RELATIVE) the place behind the content of the nearest option before it without NOT" */
    private static void everyLeastAndSpanRelative() {
        String text = "0123456789ab";
        String[] contents = {"012", "12", "4", "5", "789", "b"};
        for (String content : contents) {
            int p = text.indexOf(content);
            int n = content.length();
            for (int least = -14; least <= 14; least++) {
                for (int span = 0; span <= 28; span += span < 8 ? 1 : 5) {
                    String what = content + ": LEAST " + least + ", SPAN " + span;
                    boolean found = isFound(p, 5, n, least, span);
                    Due.is(what + ", relative", raisedAt(text, opt("34", 0, 0, 0),
                            opt(content, RELATIVE, least, span)) != 0, found);
                    Due.is(what + ", relative behind NOT", raisedAt(text, opt("34", 0, 0, 0),
                            opt("x", NOT, 0, 0), opt(content, RELATIVE, least, span)) != 0, found);
                    Due.is(what + ", relative NOT", raisedAtEnd(text, opt("b", 0, 0, 0),
                            opt("34", 0, 0, 0), opt(content, NOT | RELATIVE, least, span)) != 0, !found);
                }
            }
        }
    }

    /** "(SPAN 0 means that there is no such limit.)" */
    private static void spanZero() {
        String much = "a".repeat(79) + "b";
        Due.is("SPAN 0, absolute", raisedAt(much, opt("b", 0, 0, 0)), 80);
        Due.is("SPAN 1, absolute", raisedAt(much, opt("b", 0, 0, 1)), 0);
        Due.is("SPAN 0, LEAST 79", raisedAt(much, opt("b", 0, 79, 0)), 80);
        Due.is("SPAN 1, LEAST 79", raisedAt(much, opt("b", 0, 79, 1)), 80);
        Due.is("SPAN 0, LEAST 80", raisedAt(much, opt("b", 0, 80, 0)), 0);
        Due.is("SPAN 0, LEAST -80", raisedAt(much, opt("b", 0, -80, 0)), 80);
        Due.is("SPAN 80, LEAST -80", raisedAt(much, opt("a", 0, -80, 80)), 0);
        Due.is("SPAN 80, LEAST -79", raisedAt(much, opt("a", 0, -79, 80)), 1);
        Due.is("SPAN 80, LEAST 80", raisedAt(much, opt("a", 0, 80, 80)), 0);
        Due.is("SPAN 0, relative", raisedAt(much, opt("a", 0, 0, 1), opt("b", RELATIVE, 78, 0)), 80);
        Due.is("SPAN 0, relative, LEAST 79", raisedAt(much, opt("a", 0, 0, 1),
                opt("b", RELATIVE, 79, 0)), 0);
        Due.is("SPAN 0, back to the start", raisedAt("X" + much.substring(1), opt("b", 0, 0, 0),
                opt("X", RELATIVE, -80, 0)), 80);
        Due.is("SPAN 0, not as far back", raisedAt("X" + much.substring(1), opt("b", 0, 0, 0),
                opt("X", RELATIVE, -79, 0)), 0);
        Due.is("SPAN 0, NOT", raisedAt("b" + much, opt("b", NOT, 0, 0)), 0);
        Due.is("SPAN 1, NOT", raisedAt("ab", opt("b", NOT, 0, 1)), 1);
    }

    /** "0 if there is none": options with NOT before it, and options behind it, are no base. */
    private static void baseWithoutOneBefore() {
        Due.is("a NOT before it", raisedAt("xyab", opt("q", NOT, 0, 0), opt("ab", RELATIVE, 2, 2)), 4);
        Due.is("two NOTs before it", raisedAt("xyab", opt("q", NOT, 0, 0),
                opt("qq", NOT | RELATIVE, 0, 0), opt("ab", RELATIVE, 2, 2)), 4);
        Due.is("not elsewhere", raisedAt("xyab", opt("q", NOT, 0, 0), opt("ab", RELATIVE, 3, 2)), 0);
        Due.is("NOT, and one behind it", raisedAt("abx", opt("x", NOT | RELATIVE, 0, 1),
                opt("b", 0, 0, 0)), 2);
        Due.is("NOT at 0, and one behind it", raisedAt("xab", opt("x", NOT | RELATIVE, 0, 1),
                opt("b", 0, 0, 0)), 0);
        Due.is("NOT behind NOT", raisedAtEnd("abxy", opt("ab", 0, 0, 0), opt("q", NOT, 0, 0),
                opt("x", NOT | RELATIVE, 0, 1)), 0);
        Due.is("NOT behind NOT, elsewhere", raisedAtEnd("abyx", opt("ab", 0, 0, 0),
                opt("q", NOT, 0, 0), opt("x", NOT | RELATIVE, 0, 1)), 4);
    }

    /** What one rule has found is no base for the next one, nor for the same one a byte later. */
    private static void basesOfOtherRules() {
        StreamWatch x = Talk.opened(0);
        addRule(x, opt("b", 0, 0, 0));
        addRule(x, opt("a", RELATIVE, -2, 1));
        addRule(x, opt("b", 0, 0, 0), opt("z", 0, 0, 0));
        addRule(x, opt("a", NOT | RELATIVE, -2, 1), opt("b", 0, 0, 0));
        Due.is("rules 0 and 3", Talk.send(x, 0, 0, 1, Talk.ACK, "ab"), 2);
        Due.is("rule 3", x.alert(0, 0), 3);
        Due.is("no other rule", Talk.send(x, 0, 0, 3, Talk.ACK, "cab"), 0);
    }

    /** What was found in a longer text is not found behind the end of a shorter one. */
    private static void placesOfOtherTexts() {
        for (int longer = 2; longer <= 7; longer++) {
            for (int shorter = 1; shorter < longer; shorter++) {
                StreamWatch x = Talk.opened(0);
                addRule(x, opt("x", NOT, 0, 0), opt("z", 0, 0, 0));
                String one = "-".repeat(longer - 1) + "x";
                String other = "-".repeat(shorter - 1) + "z";
                Due.is("the longer text", Talk.send(x, 0, 0, 1, Talk.ACK, one), 0);
                Due.is("the shorter text", Talk.send(x, 1, 0, 0, Talk.SYN, other), 1);
                Due.is("alert", Talk.alertOf(x, 0), "0 1001 0 " + shorter);
            }
        }
    }

    /** "(taken in order for their bases; the places need not rise)" */
    private static void placesNeedNotRise() {
        Due.is("the second before the first", raisedAt("cdab", opt("ab", 0, 0, 0),
                opt("cd", 0, 0, 0)), 4);
        Due.is("the same place twice", raisedAt("ab", opt("ab", 0, 0, 0), opt("ab", 0, 0, 0)), 2);
        Due.is("the same place, relative", raisedAt("ab", opt("ab", 0, 0, 0),
                opt("ab", RELATIVE, -2, 2)), 2);
        Due.is("back and forth", raisedAt("efabcd", opt("cd", 0, 0, 0), opt("ef", RELATIVE, -6, 2),
                opt("ab", RELATIVE, 0, 2)), 6);
        Due.is("the base is that of the option before", raisedAt("efabcd", opt("cd", 0, 0, 0),
                opt("ef", RELATIVE, -6, 2), opt("ab", RELATIVE, -4, 2)), 0);
    }

    /** "and each option with NOT is found nowhere, its base being that of these places" */
    private static void nots() {
        Due.is("NOT alone", raisedAt("ab", opt("a", NOT, 0, 0)), 0);
        Due.is("NOT alone", raisedAt("ba", opt("a", NOT, 0, 0)), 1);
        Due.is("NOT within places", raisedAt("ab", opt("a", NOT, 1, 0)), 1);
        Due.is("NOT without case", raisedAt("Ab", opt("a", NOT | NO_CASE, 0, 0)), 0);
        Due.is("NOT with case", raisedAt("Ab", opt("a", NOT, 0, 0)), 1);
        Due.is("NOT that cannot be", raisedAt("a", opt("aa", NOT, 0, 1)), 1);
        Due.is("NOT relative, none before", raisedAt("za", opt("z", NOT | RELATIVE, 0, 1),
                opt("a", 0, 0, 0)), 0);
        Due.is("NOT before", raisedAt("za", opt("z", NOT, 0, 0), opt("a", 0, 0, 0)), 0);
        Due.is("NOT behind, found", raisedAt("zaz", opt("za", 0, 0, 0), opt("z", NOT | RELATIVE, 0, 1)), 2);
        Due.is("NOT before its base", raisedAt("xzab", opt("ab", 0, 0, 0),
                opt("z", NOT | RELATIVE, -3, 1)), 0);
        Due.is("NOT before its base, elsewhere", raisedAt("zxab", opt("ab", 0, 0, 0),
                opt("z", NOT | RELATIVE, -3, 1)), 4);
    }

    /** "A rule HOLDS on a text if there are places for its options .. so that each is found" */
    private static void choices() {
        Due.is("the second a", raisedAt("axab", opt("a", 0, 0, 0), opt("b", RELATIVE, 0, 1)), 4);
        Due.is("the first a", raisedAt("abax", opt("x", 0, 0, 0), opt("a", 0, 0, 0),
                opt("b", RELATIVE, 0, 1)), 4);
        Due.is("three", raisedAt("abacabc", opt("a", 0, 0, 0), opt("b", RELATIVE, 0, 1),
                opt("c", RELATIVE, 0, 1)), 7);
        Due.is("an a without z behind it", raisedAt("zazaza", opt("aza", 0, 0, 0),
                opt("za", NOT | RELATIVE, 0, 2)), 4);
        Due.is("q, then x at last", raisedAt("qzqx", opt("x", 0, 0, 0), opt("q", 0, 0, 0),
                opt("z", NOT | RELATIVE, 0, 1)), 4);
        Due.is("no q without z", raisedAt("qzqzx", opt("x", 0, 0, 0), opt("q", 0, 0, 0),
                opt("z", NOT | RELATIVE, 0, 1)), 0);
        Due.is("NOT is for the places of the others, too", raisedAt("azab", opt("a", 0, 0, 0),
                opt("z", NOT | RELATIVE, 0, 1), opt("b", RELATIVE, 0, 1)), 4);
        Due.is("a place that NOT refuses is none for the next", raisedAt("azb", opt("a", 0, 0, 1),
                opt("z", NOT | RELATIVE, 0, 1), opt("b", RELATIVE, 0, 0)), 0);
    }

    private static void bigTexts() {
        String much = "a".repeat(79);
        Due.is("at the end", raisedAt(much + "b", opt("a", 0, 0, 0), opt("a", RELATIVE, 0, 0),
                opt("b", RELATIVE, 0, 0)), 80);
        Due.is("base 80", raisedAt(much + "b", opt("b", 0, 0, 0), opt("a", RELATIVE, -80, 1)), 80);
        Due.is("nowhere", raisedAt(much + "a", opt("a", 0, 0, 0), opt("a", RELATIVE, 0, 0),
                opt("b", RELATIVE, 0, 0)), 0);
        Due.is("span 80", raisedAt(much + "b", opt("b", 0, 0, 80)), 80);
        Due.is("span 79", raisedAt(much + "b", opt("b", 0, 0, 79)), 0);
        Due.is("no span, far below", raisedAt(much + "b", opt("b", 0, -80, 0)), 80);
    }
}
