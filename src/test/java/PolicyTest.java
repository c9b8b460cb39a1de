/** Terms: the two POLICIES. */
public final class PolicyTest {
    private static final int ACK = Talk.ACK;

    public static void main(String[] args) {
        for (int last = 0; last < 2; last++) {
            oneHeldAlready(last);
            overlap(last);
            manyTimes(last);
            nothingHeldThere(last);
            whatIsInTheText(last);
            outsideTheWindow(last);
            alertsSeeWhatStays(last);
        }
        Due.end();
    }

    private static void is(String what, int last, StreamWatch x, String first, String second) {
        Due.is(what + ", policy " + last, Talk.textOf(x, 0, 0), last == 0 ? first : second);
    }

    /** "it is held, unless one is held there already and the POLICY is 0" */
    private static void oneHeldAlready(int last) {
        for (int distance = 1; distance <= 31; distance += 30) {
            StreamWatch x = Talk.opened(last);
            Talk.send(x, 0, 0, 1 + distance, ACK, "1");
            Talk.send(x, 0, 0, 1 + distance, ACK, "2");
            Due.is("held once", x.stream(0, 0, 2), 1);
            for (int i = 0; i < distance; i++) {
                Talk.send(x, 0, 0, 1 + i, ACK, "-");
            }
            is("NEXT + " + distance, last, x, "-".repeat(distance) + "1", "-".repeat(distance) + "2");
        }
    }

    /** "(the first one stays; with 1 the last one does)" */
    private static void overlap(int last) {
        StreamWatch x = Talk.opened(last);
        Talk.send(x, 0, 0, 3, ACK, "cde");
        Talk.send(x, 0, 0, 5, ACK, "EFG");
        Talk.send(x, 0, 0, 2, ACK, "BC");
        Due.is("held", x.stream(0, 0, 2), 6);
        Talk.send(x, 0, 0, 1, ACK, "a");
        is("overlap", last, x, "aBcdeFG", "aBCdEFG");
    }

    private static void manyTimes(int last) {
        StreamWatch x = Talk.opened(last);
        String[] all = {"1", "2", "\0", "\u00ff", "3"};
        for (String one : all) {
            Talk.send(x, 0, 0, 2, ACK, one);
        }
        Talk.send(x, 0, 0, 4, ACK, "\0");
        Talk.send(x, 0, 0, 4, ACK, "z");
        Talk.send(x, 0, 0, 1, ACK, "A-C");
        is("many", last, x, "A1C\0", "A-Cz");
    }

    private static void nothingHeldThere(int last) {
        StreamWatch x = Talk.opened(last);
        Talk.send(x, 0, 0, 2, ACK, "1");
        Talk.send(x, 0, 0, 4, ACK, "3");
        Talk.send(x, 0, 0, 1, ACK, "ABCDE");
        is("what fills the gap as well", last, x, "A1C3E", "ABCDE");
    }

    private static void whatIsInTheText(int last) {
        StreamWatch x = Talk.opened(last);
        Talk.send(x, 0, 0, 1, ACK, "abc");
        Talk.send(x, 0, 0, 1, ACK, "ABCD");
        is("what is in the text stays", last, x, "abcD", "abcD");
    }

    private static void outsideTheWindow(int last) {
        StreamWatch x = Talk.opened(last);
        Talk.send(x, 0, 0, 2, ACK, "b");
        Talk.send(x, 0, 0, 34, ACK, "X");
        Talk.send(x, 0, 0, 2 - 32, ACK, "Y");
        Due.is("held", x.stream(0, 0, 2), 1);
        Talk.send(x, 0, 0, 1, ACK, "a");
        is("32 numbers away", last, x, "ab", "ab");
    }

    private static void alertsSeeWhatStays(int last) {
        StreamWatch x = Talk.opened(last);
        x.rule(0, 0);
        Talk.option(x, "first", 0, 0, 0);
        x.rule(0, 0);
        Talk.option(x, "last!", 0, 0, 0);
        Talk.send(x, 0, 0, 2, ACK, "first");
        Talk.send(x, 0, 0, 2, ACK, "last!");
        Due.is("watch", Talk.send(x, 0, 0, 1, ACK, " "), 1);
        Due.is("the rule", x.alert(0, 0), last);
    }
}
