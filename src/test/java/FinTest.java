/** Terms: FIN, ended streams, and flows that are free when both streams have ended. */
public final class FinTest {
    private static final int FIN = Talk.FIN;
    private static final int SYN = Talk.SYN;
    private static final int ACK = Talk.ACK;

    public static void main(String[] args) {
        justBehindItsData();
        nextIsLess();
        nextIsMore();
        bytesThatAreLost();
        notRemembered();
        overTheWrap();
        firstPacketOfItsStream();
        withSyn();
        behindAFullText();
        goesOnTakingData();
        bothEnded();
        oneEnded();
        alertsOfTheLastPacket();
        Due.end();
    }

    private static boolean ends(StreamWatch x, int sequence, int flags, String data) {
        Talk.send(x, 0, 0, sequence, flags, data);
        return x.stream(0, 0, 3) == 1;
    }

    private static StreamWatch withAbcd() {
        StreamWatch x = Talk.opened(0);
        Talk.send(x, 0, 0, 1, ACK, "abcd");
        return x;
    }

    /** "A packet with FIN ends its stream if .. NEXT is just the number behind its data" */
    private static void justBehindItsData() {
        Due.is("no FIN", ends(withAbcd(), 5, ACK, "e"), false);
        Due.is("FIN with data", ends(withAbcd(), 5, FIN, "efg"), true);
        Due.is("FIN and ACK", ends(withAbcd(), 5, FIN | ACK, "e"), true);
        Due.is("FIN at NEXT - 1", ends(withAbcd(), 4, FIN, ""), false);
        Due.is("FIN at NEXT", ends(withAbcd(), 5, FIN, ""), true);
        Due.is("FIN at NEXT + 1", ends(withAbcd(), 6, FIN, ""), false);
        Due.is("old data up to NEXT - 1", ends(withAbcd(), 2, FIN, "bc"), false);
        Due.is("old data up to NEXT", ends(withAbcd(), 2, FIN, "bcd"), true);
        Due.is("old and new data", ends(withAbcd(), 2, FIN, "bcdef"), true);
    }

    private static void nextIsLess() {
        StreamWatch x = withAbcd();
        Due.is("a gap", ends(x, 6, FIN, "f"), false);
        Due.is("held", Talk.streamOf(x, 0, 0), "4 5 1 0");
    }

    /** "when all this is done" */
    private static void nextIsMore() {
        StreamWatch x = withAbcd();
        Talk.send(x, 0, 0, 6, ACK, "fg");
        Due.is("held bytes follow", ends(x, 5, FIN, "e"), false);
        Due.is("stream", Talk.streamOf(x, 0, 0), "7 8 0 0");
        StreamWatch y = withAbcd();
        Talk.send(y, 0, 0, 6, ACK, "fg");
        Due.is("with the last held byte", ends(y, 5, FIN, "efg"), true);
        StreamWatch z = withAbcd();
        Talk.send(z, 0, 0, 8, ACK, "h");
        Due.is("held bytes behind a gap", ends(z, 5, FIN, "ef"), true);
        Due.is("stay held", Talk.streamOf(z, 0, 0), "6 7 1 1");
    }

    private static void bytesThatAreLost() {
        String forty = "0123456789".repeat(4);
        StreamWatch x = Talk.opened(0);
        Raw.plain(forty.substring(0, 33)).setTcp(13, FIN).setSequence(1).sumUp().sendTo(x);
        Due.is("the last byte is behind NEXT + 31", Talk.streamOf(x, 0, 0), "32 33 0 0");
        StreamWatch y = Talk.opened(0);
        Raw.plain(forty.substring(0, 32)).setTcp(13, FIN).setSequence(1).sumUp().sendTo(y);
        Due.is("the last byte is at NEXT + 31", Talk.streamOf(y, 0, 0), "32 33 0 1");
    }

    private static void notRemembered() {
        StreamWatch x = Talk.opened(0);
        Due.is("FIN behind a gap", ends(x, 3, FIN, "cd"), false);
        Due.is("the gap is filled", ends(x, 1, ACK, "ab"), false);
        Due.is("text", Talk.textOf(x, 0, 0), "abcd");
        Due.is("FIN once more", ends(x, 3, FIN, "cd"), true);
    }

    private static void overTheWrap() {
        StreamWatch x = new StreamWatch(0);
        Talk.send(x, 0, 0, -4, SYN, "");
        Due.is("FIN up to NEXT 0", ends(x, -3, FIN, "abc"), true);
        Due.is("stream", Talk.streamOf(x, 0, 0), "3 0 0 1");
        StreamWatch y = new StreamWatch(0);
        Talk.send(y, 0, 0, -4, SYN, "");
        Due.is("FIN over the wrap", ends(y, -3, FIN, "abcdef"), true);
        Due.is("stream", Talk.streamOf(y, 0, 0), "6 3 0 1");
        StreamWatch z = new StreamWatch(0);
        Talk.send(z, 0, 0, Integer.MAX_VALUE - 1, SYN, "");
        Due.is("FIN over the largest int", ends(z, Integer.MAX_VALUE, FIN, "ab"), true);
    }

    private static void firstPacketOfItsStream() {
        StreamWatch x = Talk.opened(0);
        Talk.send(x, 0, 1, 70, FIN, "");
        Due.is("without data", Talk.streamOf(x, 0, 1), "0 70 0 1");
        StreamWatch y = Talk.opened(0);
        Talk.send(y, 0, 1, 70, FIN, "ab");
        Due.is("with data", Talk.streamOf(y, 0, 1), "2 72 0 1");
    }

    private static void withSyn() {
        StreamWatch x = new StreamWatch(0);
        Due.is("SYN and FIN", ends(x, 9, SYN | FIN, ""), true);
        Due.is("stream", Talk.streamOf(x, 0, 0), "0 10 0 1");
        StreamWatch y = new StreamWatch(0);
        Due.is("SYN and FIN with data", ends(y, 9, SYN | FIN, "ab"), true);
        Due.is("stream", Talk.streamOf(y, 0, 0), "2 12 0 1");
        Due.is("SYN and FIN at NEXT", ends(withAbcd(), 5, SYN | FIN, ""), false);
        Due.is("SYN and FIN at NEXT - 1", ends(withAbcd(), 4, SYN | FIN, ""), true);
    }

    private static void behindAFullText() {
        StreamWatch x = Talk.opened(0);
        for (int i = 0; i < 10; i++) {
            Talk.send(x, 0, 0, 1 + 8 * i, ACK, "abcdefgh");
        }
        Due.is("FIN with a lost byte", ends(x, 81, FIN, "z"), true);
        Due.is("stream", Talk.streamOf(x, 0, 0), "80 82 0 1");
    }

    /** "(an ended stream goes on taking data like another one)" */
    private static void goesOnTakingData() {
        StreamWatch x = withAbcd();
        x.rule(0, 0);
        Talk.option(x, "h", 0, 0, 0);
        Due.is("FIN", ends(x, 5, FIN, ""), true);
        Talk.send(x, 0, 0, 7, ACK, "gh");
        Due.is("it holds", Talk.streamOf(x, 0, 0), "4 5 2 1");
        Due.is("it raises alerts", Talk.send(x, 0, 0, 5, ACK, "ef"), 1);
        Due.is("it takes", Talk.streamOf(x, 0, 0), "8 9 0 1");
        Due.is("FIN elsewhere: it stays ended", ends(x, 90, FIN, ""), true);
        Due.is("FIN again", ends(x, 9, FIN, ""), true);
        Due.is("the flow is there", x.flow(0, 1), 1000);
    }

    /** "a flow with both streams ended is free then" */
    private static void bothEnded() {
        for (int first = 0; first < 2; first++) {
            StreamWatch x = Talk.opened(0);
            Talk.send(x, 1, 0, 0, SYN, "");
            Talk.send(x, 0, first, 1, FIN, "");
            Due.is("one ended", x.flow(0, 1), 1000);
            Due.is("the other", Talk.send(x, 0, 1 - first, 1, FIN, "a"), 0);
            Due.is("it is free", x.flow(0, 1), -1);
            Due.is("streams", Talk.streamOf(x, 0, 0), "-1 -1 -1 -1");
            Due.is("without a flow", Talk.send(x, 0, 0, 1, ACK, "a"), -10);
            Due.is("the other flow is there", x.flow(1, 4), 0);
            Talk.send(x, 2, 0, 0, SYN, "");
            Due.is("its place is used again", x.flow(0, 1), 1002);
            Due.is("stream 0 has not ended", Talk.streamOf(x, 0, 0), "0 1 0 0");
            Due.is("stream 1 has not ended", Talk.streamOf(x, 0, 1), "0 0 0 0");
        }
    }

    private static void oneEnded() {
        StreamWatch x = Talk.opened(0);
        Talk.send(x, 0, 0, 1, FIN, "");
        Talk.send(x, 0, 0, 1, FIN, "");
        Due.is("one ended twice", x.flow(0, 1), 1000);
        Talk.send(x, 0, 1, 1, ACK, "");
        Talk.send(x, 0, 1, 2, FIN, "b");
        Due.is("FIN of the other, behind a gap", x.flow(0, 1), 1000);
        Talk.send(x, 0, 1, 1, ACK, "a");
        Due.is("both full, one ended", x.flow(0, 1), 1000);
        Talk.send(x, 0, 1, 3, FIN, "");
        Due.is("both ended", x.flow(0, 1), -1);
    }

    private static void alertsOfTheLastPacket() {
        StreamWatch x = Talk.opened(0);
        x.rule(1, 80);
        Talk.option(x, "z", 0, 0, 0);
        Talk.send(x, 0, 0, 1, FIN, "");
        Due.is("an alert", Talk.send(x, 0, 1, 1, FIN, "xyz"), 1);
        Due.is("no flow", x.flow(0, 1), -1);
        Due.is("it is kept", Talk.alertOf(x, 0), "0 1000 1 3");
    }
}
