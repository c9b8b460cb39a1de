/** Terms: FLOWS, which packets belong to them, make them and end them. */
public final class FlowsTest {
    private static final int SYN = Talk.SYN;
    private static final int ACK = Talk.ACK;
    private static final int FIN = Talk.FIN;
    private static final int RST = Talk.RST;

    public static void main(String[] args) {
        atMostFour();
        oneWayOrTheOther();
        bothEndsCount();
        flagsThatMakeOne();
        otherFlagsMatterNothing();
        senderIsTheClient();
        lowestFreePlace();
        longestNotHeardOf();
        heardOfByAnyPacket();
        notHeardOfByOthers();
        noneGoesWhileOneIsFree();
        placeIsNew();
        resetEndsItsFlow();
        resetOfOneJustMade();
        resetOfOneJustMadeWithNoneFree();
        dataOfResetCountForNothing();
        sameEndTwice();
        Due.end();
    }

    private static StreamWatch full() {
        StreamWatch x = new StreamWatch(0);
        for (int c = 0; c < 4; c++) {
            Due.is("SYN of " + c, Talk.send(x, c, 0, 0, SYN, ""), 0);
        }
        return x;
    }

    private static String ports(StreamWatch x) {
        return x.flow(0, 1) + " " + x.flow(1, 1) + " " + x.flow(2, 1) + " " + x.flow(3, 1);
    }

    /** "At most 4 flows are held." */
    private static void atMostFour() {
        StreamWatch x = new StreamWatch(0);
        String[] want = {"1000 -1 -1 -1", "1000 1001 -1 -1", "1000 1001 1002 -1",
            "1000 1001 1002 1003", "1004 1001 1002 1003", "1004 1005 1002 1003",
            "1004 1005 1006 1003", "1004 1005 1006 1007"};
        for (int c = 0; c < 8; c++) {
            Due.is("SYN of " + c, Talk.send(x, c, 0, 0, SYN, ""), 0);
            Due.is("flows", ports(x), want[c]);
            Due.is("place 4", x.flow(4, 1), -1);
        }
        for (int c = 0; c < 8; c++) {
            Due.is("ACK of " + c, Talk.send(x, c, 0, 0, ACK, ""), c < 4 ? -10 : 0);
        }
    }

    /** "A packet belongs to the flow in whose ends its own two ends are, one way or the other." */
    private static void oneWayOrTheOther() {
        StreamWatch x = full();
        for (int c = 0; c < 4; c++) {
            Due.is("to the server", Talk.send(x, c, 0, 1, ACK, "to" + c), 0);
            Due.is("back", Talk.send(x, c, 1, 77, ACK, "back" + c), 0);
        }
        for (int c = 0; c < 4; c++) {
            Due.is("stream 0", Talk.textOf(x, c, 0), "to" + c);
            Due.is("stream 1", Talk.textOf(x, c, 1), "back" + c);
        }
        Due.is("SYN back belongs, too", Talk.send(x, 2, 1, 5, SYN, ""), 0);
        Due.is("flows", ports(x), "1000 1001 1002 1003");
    }

    /** The SYN of client 0 to the server, or one from the server to it. */
    private static Raw between(int way) {
        Raw there = Raw.plain("");
        return way == 0 ? there
                : there.setTwo(14, 0x101).setTwo(18, 1).setTwo(20, 80).setTwo(22, 1000).sumUp();
    }

    /** A host or a port that is another by any one bit, more or less: it is not of the flow. */
    private static void bothEndsCount() {
        for (int bit = 0; bit < 12 * 8; bit++) {
            int k = 12 + bit / 8;
            int other = 1 << bit % 8;
            for (int way = 0; way < 2; way++) {
                StreamWatch x = Talk.opened(0);
                String name = "way " + way + ", byte " + k + " ^ " + other;
                Due.is("the same ends", between(way).setTcp(13, ACK).sumUp().sendTo(x), 0);
                Raw changed = between(way).flip(k, other);
                Due.is(name, changed.setTcp(13, ACK).sumUp().sendTo(x), -10);
                Due.is(name + ", SYN", changed.setTcp(13, SYN).sumUp().sendTo(x), 0);
                Due.is(name + ", another flow", x.flow(1, 4), 0);
            }
        }
        portsOrHostsAlone();
    }

    private static void portsOrHostsAlone() {
        StreamWatch x = Talk.opened(0);
        Raw ports = Raw.plain("").setTcp(13, ACK).setTwo(20, 80).setTwo(22, 1000).sumUp();
        Due.is("ports the other way alone", ports.sendTo(x), -10);
        Raw hosts = Raw.plain("").setTcp(13, ACK).setTwo(14, 0x101).setTwo(18, 1).sumUp();
        Due.is("hosts the other way alone", hosts.sendTo(x), -10);
        Due.is("both", hosts.setTwo(20, 80).setTwo(22, 1000).sumUp().sendTo(x), 0);
        Raw client = Raw.plain("").setTcp(13, ACK).setTwo(18, 1).setTwo(22, 1000).sumUp();
        Due.is("client to client", client.sendTo(x), -10);
        Raw server = Raw.plain("").setTcp(13, ACK).setTwo(14, 0x101).setTwo(20, 80).sumUp();
        Due.is("server to server", server.sendTo(x), -10);
    }

    /** "If there is none, a packet with SYN and without ACK makes one" and "Any other .." */
    private static void flagsThatMakeOne() {
        for (int flags = 0; flags < 256; flags++) {
            StreamWatch x = new StreamWatch(0);
            boolean makes = (flags & SYN) != 0 && (flags & ACK) == 0;
            boolean stays = makes && (flags & RST) == 0;
            int got = Raw.plain("").setTcp(13, flags).sumUp().sendTo(x);
            Due.is("flags " + flags, got, makes ? 0 : -10);
            Due.is("flow of flags " + flags, x.flow(0, 1), stays ? 1000 : -1);
        }
    }

    /** "the FLAGS: 1 FIN, 2 SYN, 4 RST, 16 ACK." */
    private static void otherFlagsMatterNothing() {
        for (int flags = 0; flags < 256; flags++) {
            StreamWatch x = Talk.opened(0);
            int got = Raw.plain("").setSequence(1).setTcp(13, flags).sumUp().sendTo(x);
            Due.is("flags " + flags, got, 0);
            boolean gone = (flags & RST) != 0;
            boolean ended = (flags & (FIN | SYN)) == FIN;
            Due.is("stream after flags " + flags, Talk.streamOf(x, 0, 0),
                    gone ? "-1 -1 -1 -1" : ended ? "0 1 0 1" : "0 1 0 0");
        }
    }

    /** "with its sender as the client" */
    private static void senderIsTheClient() {
        StreamWatch x = new StreamWatch(0);
        Due.is("SYN of the other side", Talk.send(x, 3, 1, 5, SYN, "s"), 0);
        Due.is("client's host", x.flow(0, 0), Talk.SERVER_HOST);
        Due.is("client's port", x.flow(0, 1), 80);
        Due.is("server's host", x.flow(0, 2), Talk.CLIENT_HOST + 3);
        Due.is("server's port", x.flow(0, 3), 1003);
        Talk.send(x, 3, 0, 8, ACK, "c");
        Due.is("stream 0", Talk.textOf(x, 0, 0), "s");
        Due.is("stream 1", Talk.textOf(x, 0, 1), "c");
    }

    /** "in the lowest free place 0 .. 3" */
    private static void lowestFreePlace() {
        String[] want = {"1004 1001 1002 1003", "1000 1004 1002 1003", "1000 1001 1004 1003",
            "1000 1001 1002 1004"};
        for (int gone = 0; gone < 4; gone++) {
            StreamWatch x = full();
            Talk.send(x, gone, 0, 0, RST, "");
            Talk.send(x, 4, 0, 0, SYN, "");
            Due.is("place " + gone + " was free", ports(x), want[gone]);
        }
        StreamWatch x = full();
        Talk.send(x, 3, 0, 0, RST, "");
        Talk.send(x, 1, 0, 0, RST, "");
        Talk.send(x, 2, 0, 0, RST, "");
        Talk.send(x, 4, 0, 0, SYN, "");
        Due.is("places 1, 2, 3 were free", ports(x), "1000 1004 -1 -1");
        Talk.send(x, 0, 0, 0, RST, "");
        Talk.send(x, 5, 0, 0, SYN, "");
        Due.is("places 0, 2, 3 were free", ports(x), "1005 1004 -1 -1");
    }

    /** "if none is free, the flow that was not heard of for longest goes first" */
    private static void longestNotHeardOf() {
        for (int oldest = 0; oldest < 4; oldest++) {
            StreamWatch x = full();
            for (int i = 1; i < 4; i++) {
                Talk.send(x, (oldest + i) % 4, i % 2, 0, ACK, "");
            }
            Due.is("heard of later than the oldest", x.flow(oldest, 4), 3);
            Due.is("SYN", Talk.send(x, 4, 0, 0, SYN, ""), 0);
            Due.is("the place of the oldest", x.flow(oldest, 1), 1004);
            int next = (oldest + 1) % 4;
            Due.is("SYN", Talk.send(x, 5, 0, 0, SYN, ""), 0);
            Due.is("the place of the next", x.flow(next, 1), 1005);
            Due.is("the one that went has no flow", Talk.send(x, oldest, 0, 1, ACK, "a"), -10);
        }
    }

    /** "(a flow is heard of when a packet belongs to it)" */
    private static void heardOfByAnyPacket() {
        int[] flags = {0, ACK, SYN, SYN | ACK, FIN, FIN | ACK};
        for (int one : flags) {
            for (int way = 0; way < 2; way++) {
                StreamWatch x = full();
                Talk.send(x, 0, way, 500, one, "lost");
                Due.is("heard of", x.flow(0, 4), 0);
                Talk.send(x, 4, 0, 0, SYN, "");
                Due.is("flags " + one + " way " + way, ports(x), "1000 1004 1002 1003");
            }
        }
    }

    private static void notHeardOfByOthers() {
        StreamWatch x = full();
        Talk.craft(x, 0, 0, 1, ACK, "a");
        x.alter(40, 1);
        Due.is("a wrong sum", x.watch(), -9);
        Due.is("without a flow", Talk.send(x, 6, 0, 1, ACK, "a"), -10);
        Due.is("not heard of", x.flow(0, 4), 3);
        Talk.send(x, 4, 0, 0, SYN, "");
        Due.is("flows", ports(x), "1004 1001 1002 1003");
    }

    private static void noneGoesWhileOneIsFree() {
        StreamWatch x = full();
        Talk.send(x, 3, 0, 0, RST, "");
        Talk.send(x, 4, 0, 0, SYN, "");
        Due.is("flows", ports(x), "1000 1001 1002 1004");
        Talk.send(x, 5, 0, 0, SYN, "");
        Due.is("flows", ports(x), "1005 1001 1002 1004");
    }

    /** What the flow before had is not in the new one. */
    private static void placeIsNew() {
        StreamWatch x = full();
        x.rule(2, 0);
        Talk.option(x, "a", 0, 0, 0);
        Due.is("alert", Talk.send(x, 0, 0, 1, FIN, "a"), 1);
        Due.is("alert", Talk.send(x, 0, 1, 1, ACK, "a"), 1);
        Talk.send(x, 0, 0, 8, ACK, "held");
        Talk.send(x, 0, 1, 8, ACK, "held");
        Talk.send(x, 0, 0, 0, RST, "");
        Talk.send(x, 0, 0, 40, SYN, "");
        Due.is("stream 0", Talk.streamOf(x, 0, 0), "0 41 0 0");
        Due.is("stream 1", Talk.streamOf(x, 0, 1), "0 0 0 0");
        Due.is("an alert again", Talk.send(x, 0, 0, 41, ACK, "a"), 1);
        Due.is("an alert again", Talk.send(x, 0, 1, 41, ACK, "a"), 1);
    }

    /** "A packet with RST ends its flow ..: its place is free" */
    private static void resetEndsItsFlow() {
        int[] flags = {RST, RST | ACK, RST | SYN, RST | FIN, RST | SYN | ACK, RST | SYN | FIN};
        for (int one : flags) {
            for (int way = 0; way < 2; way++) {
                StreamWatch x = full();
                Due.is("RST", Talk.send(x, 1, way, 9, one, "a"), 0);
                Due.is("flags " + one, ports(x), "1000 -1 1002 1003");
                Due.is("stream", Talk.streamOf(x, 1, 0), "-1 -1 -1 -1");
                Due.is("text", x.text(1, 0, 0), -1);
                Due.is("ACK after it", Talk.send(x, 1, 0, 1, ACK, "a"), -10);
            }
        }
    }

    /** "(also one that it has just made)" */
    private static void resetOfOneJustMade() {
        StreamWatch x = Talk.opened(0);
        Due.is("SYN and RST", Talk.send(x, 1, 0, 9, SYN | RST, "a"), 0);
        Due.is("flows", ports(x), "1000 -1 -1 -1");
        Due.is("ACK after it", Talk.send(x, 1, 0, 10, ACK, "a"), -10);
        Due.is("SYN, RST and ACK", Talk.send(x, 1, 0, 9, SYN | RST | ACK, "a"), -10);
        Due.is("RST alone", Talk.send(x, 1, 0, 9, RST, "a"), -10);
        Due.is("flow 0 was heard of last", x.flow(0, 4), 0);
    }

    private static void resetOfOneJustMadeWithNoneFree() {
        StreamWatch x = full();
        Talk.send(x, 0, 0, 0, ACK, "");
        Due.is("SYN and RST", Talk.send(x, 4, 0, 9, SYN | RST, "a"), 0);
        Due.is("the oldest has gone", ports(x), "1000 -1 1002 1003");
        Due.is("RST alone makes none go", Talk.send(x, 4, 0, 9, RST, "a"), -10);
        Due.is("flows", ports(x), "1000 -1 1002 1003");
    }

    /** "its data count for nothing" */
    private static void dataOfResetCountForNothing() {
        StreamWatch x = Talk.opened(0);
        x.rule(2, 0);
        Talk.option(x, "a", 0, 0, 0);
        Due.is("RST with data", Talk.send(x, 0, 0, 1, RST, "a"), 0);
        Due.is("SYN and RST with data", Talk.send(x, 0, 0, 1, SYN | RST, "a"), 0);
        Due.is("alerts", x.alerts(), 0);
        Due.is("SYN with data", Talk.send(x, 0, 0, 1, SYN, "a"), 1);
    }

    /** From an end to itself: it is the client that sends, so all goes on stream 0. */
    private static void sameEndTwice() {
        StreamWatch x = new StreamWatch(0);
        Raw self = Raw.plain("ab").setTwo(18, 1).setTwo(22, 1000);
        Due.is("SYN", self.sumUp().sendTo(x), 0);
        Due.is("FIN", self.setSequence(103).setTcp(13, FIN).sumUp().sendTo(x), 0);
        Due.is("stream 0", Talk.textOf(x, 0, 0), "abab");
        Due.is("stream 1", Talk.streamOf(x, 0, 1), "0 0 0 0");
        Due.is("server's port", x.flow(0, 3), 1000);
    }
}
