/**
 * Promise 8: watch. ReasonsTest, FlowsTest, NextTest, PolicyTest, TextLimitTest, FinTest and
 * RulesTest have what the Terms say of it.
 */
public final class Promise08Test {
    private static final int SYN = Talk.SYN;
    private static final int ACK = Talk.ACK;

    public static void main(String[] args) {
        theWireStays();
        howManyAlerts();
        lessTheReason();
        wrongOnesAreNotHeard();
        Due.end();
    }

    /** "The wire (which stays) comes to the watch" */
    private static void theWireStays() {
        StreamWatch x = new StreamWatch(0);
        Talk.craft(x, 0, 0, 100, SYN, "abc");
        String before = Talk.wireOf(x);
        for (int i = 0; i < 3; i++) {
            Due.is("watch", x.watch(), 0);
            Due.is("wire", Talk.wireOf(x), before);
            Due.is("text", Talk.textOf(x, 0, 0), "abc");
        }
        x.alter(33, SYN ^ Talk.RST);
        x.seal();
        Due.is("watch", x.watch(), 0);
        Due.is("watch again", x.watch(), -10);
        Due.is("bytes of the wire", x.wire(-1), 43);
        x.alter(40, 1);
        Due.is("watch", x.watch(), -9);
        Due.is("bytes of the wire", x.wire(-1), 43);
        Due.is("altered", x.wire(40), 'a' ^ 1);
    }

    /** "how many alerts that raised" */
    private static void howManyAlerts() {
        StreamWatch x = new StreamWatch(0);
        for (int r = 0; r < 6; r++) {
            x.rule(0, 0);
            Talk.option(x, "abcdef".substring(r, r + 1), 0, 0, 0);
        }
        Due.is("none", Talk.send(x, 0, 0, 0, SYN, ""), 0);
        Due.is("none", Talk.send(x, 0, 0, 1, ACK, "xyz"), 0);
        Due.is("one", Talk.send(x, 0, 0, 4, ACK, "a"), 1);
        Due.is("two", Talk.send(x, 0, 0, 5, ACK, "acb"), 2);
        Due.is("three", Talk.send(x, 0, 0, 8, ACK, "fedcba"), 3);
        Due.is("six", Talk.send(x, 1, 0, 0, SYN, "abcdef"), 6);
        Due.is("in all", x.alerts(), 12);
    }

    /** "-1 less the reason if it is no packet or counts for nothing" */
    private static void lessTheReason() {
        Due.is("reason 1", new StreamWatch(0).watch(), -2);
        Due.is("reason 2", Raw.plain("").set(0, 72).watched(), -3);
        Due.is("reason 3", Raw.plain("").setLength(41).watched(), -4);
        Due.is("reason 4", Raw.plain("").set(4, 1).watched(), -5);
        Due.is("reason 5", Raw.plain("").set(6, 32).sumUp().watched(), -6);
        Due.is("reason 6", Raw.plain("").set(9, 17).sumUp().watched(), -7);
        Due.is("reason 7", Raw.plain("").setTcp(12, 0x60).sumUp().watched(), -8);
        Due.is("reason 8", Raw.plain("").setTcp(16, 0).watched(), -9);
        Due.is("reason 9", Raw.plain("").setTcp(13, ACK).sumUp().watched(), -10);
    }

    private static void wrongOnesAreNotHeard() {
        StreamWatch x = Talk.opened(0);
        x.rule(2, 0);
        Talk.option(x, "a", 0, 0, 0);
        Talk.send(x, 1, 0, 0, SYN, "");
        Talk.craft(x, 0, 0, 1, ACK, "ab");
        x.alter(40, 1);
        Due.is("watch", x.watch(), -9);
        Due.is("stream", Talk.streamOf(x, 0, 0), "0 1 0 0");
        Due.is("heard of later", x.flow(0, 4), 1);
        Due.is("without a flow", Talk.send(x, 2, 0, 0, ACK, "ab"), -10);
        Due.is("heard of later", x.flow(1, 4), 0);
        Due.is("alerts", x.alerts(), 0);
    }
}
