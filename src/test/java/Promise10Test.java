/** Promise 10: option, and when a rule holds. */
public final class Promise10Test {
    private static final int NO_CASE = 1;
    private static final int NOT = 2;
    private static final int RELATIVE = 4;

    public static void main(String[] args) {
        wrongInputs();
        contents();
        cases();
        absolutePlaces();
        relativePlaces();
        nots();
        choices();
        bigTexts();
        optionsThatComeLater();
        Due.end();
    }

    private static void wrongInputs() {
        StreamWatch x = new StreamWatch(0);
        Due.isThrown("no rule", IllegalStateException.class, () -> x.option(1, 0, 0, 0, 0));
        Due.isThrown("no rule, n 0", IllegalArgumentException.class, () -> x.option(0, 0, 0, 0, 0));
        x.rule(0, 0);
        int[][] wrong = {{0, 0, 0, 0}, {7, 0, 0, 0}, {-1, 0, 0, 0}, {1, -1, 0, 0}, {1, 8, 0, 0},
            {1, 0, -81, 0}, {1, 0, 81, 0}, {1, 0, 0, -1}, {1, 0, 0, 81},
            {1, 0, Integer.MIN_VALUE, 0}, {1, 0, 0, Integer.MAX_VALUE}};
        for (int[] w : wrong) {
            Due.isThrown("option(" + w[0] + ", 0, " + w[1] + ", " + w[2] + ", " + w[3] + ")",
                    IllegalArgumentException.class, () -> x.option(w[0], 0, w[1], w[2], w[3]));
        }
        Due.is("option", x.option(6, -1, 7, -80, 80), 1);
        Due.is("option", x.option(1, 0, 0, 80, 0), 2);
        Due.is("option", x.option(1, 0, 0, 0, 0), 3);
        Due.isThrown("a fourth", IllegalStateException.class, () -> x.option(1, 0, 0, 0, 0));
        Due.isThrown("a wrong fourth", IllegalArgumentException.class,
                () -> x.option(1, 0, 8, 0, 0));
        x.rule(0, 0);
        Due.is("option of the next rule", x.option(1, 0, 0, 0, 0), 1);
    }

    /** One option: content, marks, least, span. */
    private record Opt(String content, int marks, int least, int span) {
    }

    private static Opt opt(String content, int marks, int least, int span) {
        return new Opt(content, marks, least, span);
    }

    /** How many bytes the text had when the rule raised an alert, 0 if it raised none. */
    private static int raisedAt(String text, Opt... options) {
        StreamWatch x = Talk.opened(0);
        x.rule(0, 0);
        for (Opt one : options) {
            Talk.option(x, one.content, one.marks, one.least, one.span);
        }
        for (int i = 0; i < text.length(); i += 8) {
            String part = text.substring(i, Math.min(i + 8, text.length()));
            Talk.send(x, 0, 0, 1 + i, Talk.ACK, part);
        }
        return x.alerts() == 0 ? 0 : x.alert(0, 3);
    }

    private static void contents() {
        StreamWatch x = Talk.opened(0);
        x.rule(0, 0);
        x.option(2, 0x7778796162L, 0, 0, 0);
        Due.is("the lowest bytes", Talk.send(x, 0, 0, 1, Talk.ACK, "ab"), 1);
        Due.is("one byte", raisedAt("xya", opt("a", 0, 0, 0)), 3);
        Due.is("six bytes", raisedAt("abcdeabcdef", opt("abcdef", 0, 0, 0)), 11);
        Due.is("not whole", raisedAt("abcdeabcde", opt("abcdef", 0, 0, 0)), 0);
        Due.is("byte 0", raisedAt("a\0b", opt("\0", 0, 0, 0)), 2);
        Due.is("byte 255", raisedAt("a\u00ffb", opt("\u00ffb", 0, 0, 0)), 3);
    }

    private static void cases() {
        Due.is("with case", raisedAt("GeT get", opt("get", 0, 0, 0)), 7);
        Due.is("without case", raisedAt("GeT get", opt("get", NO_CASE, 0, 0)), 3);
        Due.is("without case, great content", raisedAt("GeT get", opt("GET", NO_CASE, 0, 0)), 3);
        Due.is("a and z", raisedAt("AZ", opt("az", NO_CASE, 0, 0)), 2);
        String[][] others = {{"@", "`"}, {"[", "{"}, {"\u00c4", "\u00e4"}, {"1", "Q"}};
        for (String[] pair : others) {
            Due.is("no letters", raisedAt(pair[0], opt(pair[1], NO_CASE, 0, 0)), 0);
            Due.is("no letters", raisedAt(pair[1], opt(pair[0], NO_CASE, 0, 0)), 0);
            Due.is("the same", raisedAt(pair[1], opt(pair[1], NO_CASE, 0, 0)), 1);
        }
    }

    private static void absolutePlaces() {
        Due.is("least", raisedAt("abxab", opt("ab", 0, 1, 0)), 5);
        Due.is("least is the place", raisedAt("xab", opt("ab", 0, 1, 0)), 3);
        Due.is("span", raisedAt("xxab", opt("ab", 0, 0, 4)), 4);
        Due.is("span too small", raisedAt("xxab", opt("ab", 0, 0, 3)), 0);
        Due.is("span with least", raisedAt("xxab", opt("ab", 0, 2, 2)), 4);
        Due.is("span with least", raisedAt("xxab", opt("ab", 0, 1, 3)), 4);
        Due.is("span with least too small", raisedAt("xxab", opt("ab", 0, 1, 2)), 0);
        Due.is("span less than the content", raisedAt("abab", opt("ab", 0, 0, 1)), 0);
        Due.is("least below 0", raisedAt("xab", opt("ab", 0, -1, 4)), 3);
        Due.is("least below 0, span too small", raisedAt("xab", opt("ab", 0, -2, 4)), 0);
        Due.is("absolute behind another", raisedAt("cdab", opt("ab", 0, 0, 0), opt("cd", 0, 0, 2)), 4);
        Due.is("absolute without case", raisedAt("CDab", opt("ab", 0, 0, 0),
                opt("cd", NO_CASE, 0, 2)), 4);
        Due.is("least 80", raisedAt("a".repeat(80), opt("a", 0, 80, 0)), 0);
        Due.is("least 79", raisedAt("a".repeat(80), opt("a", 0, 79, 0)), 80);
    }

    private static void relativePlaces() {
        Due.is("none before it", raisedAt("xab", opt("ab", RELATIVE, 1, 2)), 3);
        Due.is("just behind", raisedAt("abcd", opt("ab", 0, 0, 0), opt("cd", RELATIVE, 0, 2)), 4);
        Due.is("not just behind", raisedAt("abxcd", opt("ab", 0, 0, 0), opt("cd", RELATIVE, 0, 2)), 0);
        Due.is("one between", raisedAt("abxcd", opt("ab", 0, 0, 0), opt("cd", RELATIVE, 1, 2)), 5);
        Due.is("before it", raisedAt("cdab", opt("ab", 0, 0, 0), opt("cd", RELATIVE, 0, 0)), 0);
        Due.is("before it, least -4", raisedAt("cdab", opt("ab", 0, 0, 0), opt("cd", RELATIVE, -4, 0)), 4);
        Due.is("before it, least -3", raisedAt("cdab", opt("ab", 0, 0, 0), opt("cd", RELATIVE, -3, 0)), 0);
        Due.is("over it", raisedAt("abc", opt("ab", 0, 0, 0), opt("bc", RELATIVE, -1, 2)), 3);
        Due.is("behind a NOT", raisedAt("abcd", opt("ab", 0, 0, 0), opt("x", NOT, 0, 0),
                opt("cd", RELATIVE, 0, 2)), 4);
        Due.is("behind an absolute one", raisedAt("abcdef", opt("ab", 0, 0, 0), opt("ef", 0, 0, 0),
                opt("cd", RELATIVE, -4, 2)), 6);
        Due.is("the nearest one alone", raisedAt("abcdef", opt("ab", 0, 0, 0), opt("ef", 0, 0, 0),
                opt("cd", RELATIVE, 0, 2)), 0);
    }

    private static void nots() {
        Due.is("NOT alone", raisedAt("ab", opt("a", NOT, 0, 0)), 0);
        Due.is("NOT alone", raisedAt("ba", opt("a", NOT, 0, 0)), 1);
        Due.is("NOT within places", raisedAt("ab", opt("a", NOT, 1, 0)), 1);
        Due.is("NOT without case", raisedAt("Ab", opt("a", NOT | NO_CASE, 0, 0)), 0);
        Due.is("NOT with case", raisedAt("Ab", opt("a", NOT, 0, 0)), 1);
        Due.is("NOT that cannot be", raisedAt("a", opt("aa", NOT, 0, 1)), 1);
        Due.is("NOT relative, none before", raisedAt("za", opt("z", NOT | RELATIVE, 0, 1),
                opt("a", 0, 0, 0)), 0);
        Due.is("NOT before", raisedAt("za", opt("z", NOT, 0, 0), opt("a", 0, 0, 0)), 0);
        Due.is("NOT behind, found", raisedAt("zaz", opt("za", 0, 0, 0), opt("z", NOT | RELATIVE, 0, 1)), 2);
        Due.is("NOT before its base", raisedAt("xzab", opt("ab", 0, 0, 0),
                opt("z", NOT | RELATIVE, -3, 1)), 0);
        Due.is("NOT before its base, elsewhere", raisedAt("zxab", opt("ab", 0, 0, 0),
                opt("z", NOT | RELATIVE, -3, 1)), 4);
    }

    /** The first place that is found is not always the one that lets the rest hold. */
    private static void choices() {
        Due.is("the second a", raisedAt("axab", opt("a", 0, 0, 0), opt("b", RELATIVE, 0, 1)), 4);
        Due.is("the first a", raisedAt("abax", opt("x", 0, 0, 0), opt("a", 0, 0, 0),
                opt("b", RELATIVE, 0, 1)), 4);
        Due.is("three", raisedAt("abacabc", opt("a", 0, 0, 0), opt("b", RELATIVE, 0, 1),
                opt("c", RELATIVE, 0, 1)), 7);
        Due.is("an a without z behind it", raisedAt("zazaza", opt("aza", 0, 0, 0),
                opt("za", NOT | RELATIVE, 0, 2)), 4);
        Due.is("q, then x at last", raisedAt("qzqx", opt("x", 0, 0, 0), opt("q", 0, 0, 0),
                opt("z", NOT | RELATIVE, 0, 1)), 4);
        Due.is("no q without z", raisedAt("qzqzx", opt("x", 0, 0, 0), opt("q", 0, 0, 0),
                opt("z", NOT | RELATIVE, 0, 1)), 0);
        Due.is("NOT is for the places of the others, too", raisedAt("azab", opt("a", 0, 0, 0),
                opt("z", NOT | RELATIVE, 0, 1), opt("b", RELATIVE, 0, 1)), 4);
        Due.is("a place that NOT refuses is none for the next", raisedAt("azb", opt("a", 0, 0, 1),
                opt("z", NOT | RELATIVE, 0, 1), opt("b", RELATIVE, 0, 0)), 0);
    }

    private static void bigTexts() {
        String much = "a".repeat(79);
        Due.is("at the end", raisedAt(much + "b", opt("a", 0, 0, 0), opt("a", RELATIVE, 0, 0),
                opt("b", RELATIVE, 0, 0)), 80);
        Due.is("base 80", raisedAt(much + "b", opt("b", 0, 0, 0), opt("a", RELATIVE, -80, 1)), 80);
        Due.is("nowhere", raisedAt(much + "a", opt("a", 0, 0, 0), opt("a", RELATIVE, 0, 0),
                opt("b", RELATIVE, 0, 0)), 0);
        Due.is("span 80", raisedAt(much + "b", opt("b", 0, 0, 80)), 80);
        Due.is("span 79", raisedAt(much + "b", opt("b", 0, 0, 79)), 0);
        Due.is("no span, far below", raisedAt(much + "b", opt("b", 0, -80, 0)), 80);
    }

    private static void optionsThatComeLater() {
        StreamWatch x = Talk.opened(0);
        x.rule(0, 0);
        Talk.option(x, "a", 0, 0, 0);
        Due.is("watch", Talk.send(x, 0, 0, 1, Talk.ACK, "a"), 1);
        Talk.option(x, "b", 0, 0, 0);
        Due.is("it has raised one", Talk.send(x, 0, 0, 2, Talk.ACK, "b"), 0);
        Due.is("one option more counts", Talk.send(x, 1, 0, 0, Talk.SYN, "a"), 0);
        Due.is("both options", Talk.send(x, 1, 0, 2, Talk.ACK, "b"), 1);
    }
}
