/** Promise 10: option. OptionsTest has what options mean. */
public final class Promise10Test {
    private static final int[] RIGHT = {1, 0, 0, 0};

    public static void main(String[] args) {
        edgesOfArguments();
        withoutRule();
        atMostThree();
        argumentBeforeState();
        forTheLatestRule();
        lowestBytesHighestFirst();
        everyMark();
        optionsThatComeLater();
        Due.end();
    }

    private static StreamWatch withRule() {
        StreamWatch x = new StreamWatch(0);
        x.rule(0, 0);
        return x;
    }

    private static int option(StreamWatch x, int[] a) {
        return x.option(a[0], 97, a[1], a[2], a[3]);
    }

    private static void edges(String name, int argument, int least, int most) {
        int[] inside = {least, least + 1, most - 1, most};
        for (int value : inside) {
            int[] a = RIGHT.clone();
            a[argument] = value;
            Due.is(name + " " + value, option(withRule(), a), 1);
        }
        int[] outside = {least - 1, most + 1, least - 100, most + 100, Integer.MIN_VALUE,
            Integer.MAX_VALUE, least - 256, most + 256};
        for (int value : outside) {
            int[] a = RIGHT.clone();
            a[argument] = value;
            StreamWatch x = withRule();
            Due.isThrown(name + " " + value, IllegalArgumentException.class, () -> option(x, a));
            Due.is("the rule has none", option(x, RIGHT), 1);
        }
    }

    /** "if n is not 1 .. 6, marks not 0 .. 7, least not -80 .. 80, or span not 0 .. 80" */
    private static void edgesOfArguments() {
        edges("n", 0, 1, 6);
        edges("marks", 1, 0, 7);
        edges("least", 2, -80, 80);
        edges("span", 3, 0, 80);
    }

    /** "IllegalStateException if there is no rule" */
    private static void withoutRule() {
        StreamWatch x = new StreamWatch(0);
        Due.isThrown("no rule", IllegalStateException.class, () -> option(x, RIGHT));
        Due.is("rule", x.rule(0, 0), 0);
        Due.is("a rule", option(x, RIGHT), 1);
    }

    /** "or it has 3" */
    private static void atMostThree() {
        StreamWatch x = withRule();
        for (int i = 1; i <= 3; i++) {
            Due.is("option", option(x, RIGHT), i);
        }
        Due.isThrown("a fourth", IllegalStateException.class, () -> option(x, RIGHT));
        Due.isThrown("a fourth again", IllegalStateException.class, () -> option(x, RIGHT));
        Due.is("rule", x.rule(0, 0), 1);
        Due.is("option of the next rule", option(x, RIGHT), 1);
    }

    /** The document names IllegalArgumentException first; so it is what comes when both could. */
    private static void argumentBeforeState() {
        StreamWatch x = new StreamWatch(0);
        int[][] wrong = {{0, 0, 0, 0}, {7, 0, 0, 0}, {1, -1, 0, 0}, {1, 8, 0, 0}, {1, 0, -81, 0},
            {1, 0, 81, 0}, {1, 0, 0, -1}, {1, 0, 0, 81}};
        for (int[] a : wrong) {
            Due.isThrown("no rule", IllegalArgumentException.class, () -> option(x, a));
        }
        x.rule(0, 0);
        for (int i = 0; i < 3; i++) {
            option(x, RIGHT);
        }
        for (int[] a : wrong) {
            Due.isThrown("a fourth", IllegalArgumentException.class, () -> option(x, a));
        }
    }

    /** "One more option for the latest rule: how many it has." */
    private static void forTheLatestRule() {
        StreamWatch x = Talk.opened(0);
        x.rule(0, 0);
        Talk.option(x, "a", 0, 0, 0);
        x.rule(0, 0);
        Due.is("first", Talk.option(x, "b", 0, 0, 0), 1);
        Due.is("second", Talk.option(x, "c", 0, 0, 0), 2);
        Due.is("rule 0 has one", Talk.send(x, 0, 0, 1, Talk.ACK, "a"), 1);
        Due.is("rule 1 has two", Talk.send(x, 0, 0, 2, Talk.ACK, "b"), 0);
        Due.is("rule 1 holds", Talk.send(x, 0, 0, 3, Talk.ACK, "c"), 1);
    }

    /** "Its content is the n lowest bytes of bytes, the highest first" */
    private static void lowestBytesHighestFirst() {
        for (int n = 1; n <= 6; n++) {
            StreamWatch x = Talk.opened(0);
            x.rule(0, 0);
            x.option(n, 0x6162636465666768L, 0, 0, n);
            String content = "abcdefgh".substring(8 - n);
            Due.is(n + " bytes", Talk.send(x, 0, 0, 1, Talk.ACK, content), 1);
            Due.is("all of them", x.alert(0, 3), n);
        }
        StreamWatch x = Talk.opened(0);
        x.rule(0, 0);
        x.option(3, -1L, 0, 0, 0);
        Due.is("bytes of 255", Talk.send(x, 0, 0, 1, Talk.ACK, "\u00ff\u00ff-"), 0);
        Due.is("bytes of 255", Talk.send(x, 0, 0, 4, Talk.ACK, "\u00ff\u00ff\u00ff"), 1);
    }

    /**
     * "marks: 1 without CASE, + 2 with NOT, + 4 RELATIVE": b is asked for just at its base, which is
     * the start of the text or, RELATIVE, behind the a.
     */
    private static void everyMark() {
        String[] texts = {"ba", "Ba", ".ab", ".aB"};
        int[][] holds = {{1, 0, 0, 0}, {1, 1, 0, 0}, {0, 1, 1, 1}, {0, 0, 1, 1},
            {0, 0, 1, 0}, {0, 0, 1, 1}, {1, 1, 0, 1}, {1, 1, 0, 0}};
        for (int marks = 0; marks < 8; marks++) {
            for (int i = 0; i < texts.length; i++) {
                StreamWatch x = Talk.opened(0);
                String text = texts[i];
                Talk.sendAll(x, 1, text);
                x.rule(0, 0);
                Talk.option(x, "a", 0, 0, 0);
                Talk.option(x, "b", marks, 0, 1);
                int got = Talk.send(x, 0, 0, 1 + text.length(), Talk.ACK, "-");
                Due.is("marks " + marks + " on " + text, got, holds[marks][i]);
            }
        }
    }

    private static void optionsThatComeLater() {
        StreamWatch x = Talk.opened(0);
        x.rule(0, 0);
        Talk.option(x, "a", 0, 0, 0);
        Due.is("watch", Talk.send(x, 0, 0, 1, Talk.ACK, "a"), 1);
        Talk.option(x, "b", 0, 0, 0);
        Due.is("it has raised one", Talk.send(x, 0, 0, 2, Talk.ACK, "b"), 0);
        Due.is("one option more counts", Talk.send(x, 1, 0, 0, Talk.SYN, "a"), 0);
        Due.is("both options", Talk.send(x, 1, 0, 2, Talk.ACK, "b"), 1);
    }
}
