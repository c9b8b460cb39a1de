/** Terms: NEXT, what is held behind it, and what is lost, at every edge of the sequence numbers. */
public final class NextTest {
    private static final int SYN = Talk.SYN;
    private static final int ACK = Talk.ACK;
    private static final int[] NEXTS = {1, 0, -1, -2, -31, -32, -33, 31, 32, 1000,
        Integer.MAX_VALUE, Integer.MAX_VALUE - 1, Integer.MAX_VALUE - 31, Integer.MIN_VALUE,
        Integer.MIN_VALUE + 1, Integer.MIN_VALUE + 31, 0x7FFFFFE0, 0x80000020};

    public static void main(String[] args) {
        noneAtFirst();
        synGivesNext();
        synLeavesNext();
        packetWithoutSynGivesNext();
        nextThatIsZero();
        for (int next : NEXTS) {
            windowsEnd(next);
            beforeNext(next);
            farAway(next);
            allOfTheWindow(next);
            windowMovesOn(next);
            longPacket(next);
            anyOrder(next);
        }
        Due.end();
    }

    /** A watch with a flow of client 0, whose stream 0 has that NEXT. */
    private static StreamWatch at(int next) {
        StreamWatch x = new StreamWatch(0);
        Due.is("SYN", Talk.send(x, 0, 0, next - 1, SYN, ""), 0);
        Due.is("NEXT", x.stream(0, 0, 1), next);
        return x;
    }

    private static void send(StreamWatch x, int sequence, String data) {
        Due.is("watch", Talk.send(x, 0, 0, sequence, ACK, data), 0);
    }

    private static void isNow(String what, StreamWatch x, int next, String text, int held) {
        Due.is(what + ": text", Talk.textOf(x, 0, 0), text);
        Due.is(what + ": stream", Talk.streamOf(x, 0, 0), text.length() + " " + next + " " + held + " 0");
    }

    /** "A STREAM has a NEXT sequence number (none at first), a TEXT .., and HELD bytes" */
    private static void noneAtFirst() {
        StreamWatch x = at(50);
        Due.is("stream 1", Talk.streamOf(x, 0, 1), "0 0 0 0");
        Due.is("text of stream 1", x.text(0, 1, 0), -1);
    }

    /** "A packet with SYN gives its stream NEXT = its sequence number + 1, if it has none" */
    private static void synGivesNext() {
        for (int next : NEXTS) {
            StreamWatch x = new StreamWatch(0);
            Talk.send(x, 0, 0, next - 1, SYN, "");
            isNow("SYN", x, next, "", 0);
            Talk.send(x, 0, 1, next - 1, SYN | ACK, "ab");
            Due.is("SYN back, with data", Talk.streamOf(x, 0, 1), "2 " + (next + 2) + " 0 0");
            Due.is("text", Talk.textOf(x, 0, 1), "ab");
        }
    }

    /** "if it has none; its data are those from that number on" */
    private static void synLeavesNext() {
        StreamWatch x = at(50);
        Talk.send(x, 0, 0, 500, SYN, "");
        isNow("SYN elsewhere", x, 50, "", 0);
        Talk.send(x, 0, 0, 49, SYN, "ab");
        isNow("SYN again with data", x, 52, "ab", 0);
        Talk.send(x, 0, 0, 52, SYN, "d");
        isNow("SYN at NEXT: its data begin one later", x, 52, "ab", 1);
        Talk.send(x, 0, 0, 50, SYN, "bc");
        isNow("SYN before NEXT", x, 54, "abcd", 0);
    }

    /** "If the stream has none yet, a packet without SYN gives it NEXT = its sequence number." */
    private static void packetWithoutSynGivesNext() {
        for (int next : NEXTS) {
            StreamWatch x = at(1);
            Talk.send(x, 0, 1, next, ACK, "");
            Due.is("without data", Talk.streamOf(x, 0, 1), "0 " + next + " 0 0");
            Talk.send(x, 0, 1, next + 1, ACK, "b");
            Due.is("it has one now", Talk.streamOf(x, 0, 1), "0 " + next + " 1 0");
            StreamWatch y = at(1);
            Talk.send(y, 0, 1, next, 0, "ab");
            Due.is("with data", Talk.streamOf(y, 0, 1), "2 " + (next + 2) + " 0 0");
        }
    }

    /** NEXT 0 is one, though stream answers 0 for none, too. */
    private static void nextThatIsZero() {
        StreamWatch x = at(0);
        send(x, 5, "f");
        isNow("NEXT is 0", x, 0, "", 1);
        Talk.send(x, 0, 1, 5, ACK, "f");
        Due.is("NEXT is none", Talk.streamOf(x, 0, 1), "1 6 0 0");
    }

    /** "if it is behind NEXT + 31 .. it is lost" */
    private static void windowsEnd(int next) {
        StreamWatch x = at(next);
        send(x, next + 32, "x");
        isNow("NEXT + 32", x, next, "", 0);
        send(x, next + 33, "x");
        isNow("NEXT + 33", x, next, "", 0);
        send(x, next + 31, "y");
        isNow("NEXT + 31", x, next, "", 1);
        send(x, next + 28, "abcdefgh");
        isNow("NEXT + 28 .. NEXT + 35", x, next, "", 4);
        send(x, next + 1, "b");
        isNow("NEXT + 1", x, next, "", 5);
    }

    /** "or before NEXT, it is lost" and "(s is before NEXT if (s - NEXT) as an int is below 0.)" */
    private static void beforeNext(int next) {
        StreamWatch x = at(next);
        send(x, next - 1, "x");
        isNow("NEXT - 1", x, next, "", 0);
        send(x, next - 31, "x");
        isNow("NEXT - 31", x, next, "", 0);
        send(x, next - 32, "x");
        isNow("NEXT - 32", x, next, "", 0);
        send(x, next - 8, "abcdefgh");
        isNow("NEXT - 8 .. NEXT - 1", x, next, "", 0);
        send(x, next - 7, "abcdefgh");
        isNow("NEXT - 7 .. NEXT", x, next + 1, "h", 0);
        send(x, next, "x");
        isNow("NEXT - 1 again", x, next + 1, "h", 0);
        send(x, next + 1, "i");
        isNow("NEXT", x, next + 2, "hi", 0);
    }

    private static void farAway(int next) {
        StreamWatch x = at(next);
        int[] distances = {Integer.MAX_VALUE, Integer.MIN_VALUE, Integer.MIN_VALUE + 1, 64, -64,
            1 << 16, 1 << 30, -(1 << 30)};
        for (int distance : distances) {
            send(x, next + distance, "x");
            isNow("NEXT + " + distance, x, next, "", 0);
        }
    }

    /** "HELD bytes at numbers NEXT + 1 .. NEXT + 31" */
    private static void allOfTheWindow(int next) {
        StreamWatch x = at(next);
        String all = "abcdefghijklmnopqrstuvwxyzABCDEF";
        for (int i = 31; i >= 1; i--) {
            send(x, next + i, all.substring(i, i + 1));
            Due.is("held", x.stream(0, 0, 2), 32 - i);
        }
        isNow("31 held", x, next, "", 31);
        send(x, next, "a");
        isNow("NEXT at last", x, next + 32, all, 0);
    }

    private static void windowMovesOn(int next) {
        StreamWatch x = at(next);
        send(x, next + 32, "B");
        send(x, next, "a");
        isNow("NEXT + 32 was lost", x, next + 1, "a", 0);
        send(x, next + 32, "B");
        isNow("it is NEXT + 31 now", x, next + 1, "a", 1);
        send(x, next + 33, "C");
        isNow("NEXT + 32 is lost", x, next + 1, "a", 1);
        for (int i = 1; i < 25; i += 8) {
            send(x, next + i, "bcdefghi");
        }
        send(x, next + 25, "1234567");
        isNow("all", x, next + 33, "a" + "bcdefghi".repeat(3) + "1234567B", 0);
    }

    /** "A packet's bytes are gone through in order; then, as long as there is a byte at NEXT, .." */
    private static void longPacket(int next) {
        String sixty = "0123456789".repeat(5) + "abcdefghij";
        StreamWatch x = at(next);
        Raw raw = Raw.plain(sixty).setTcp(13, ACK);
        Due.is("watch", raw.setSequence(next).sumUp().sendTo(x), 0);
        isNow("60 bytes at NEXT", x, next + 32, sixty.substring(0, 32), 0);
        StreamWatch y = at(next);
        Due.is("watch", raw.setSequence(next - 29).sumUp().sendTo(y), 0);
        isNow("60 bytes from NEXT - 29", y, next + 31, sixty.substring(29), 0);
        StreamWatch z = at(next);
        Due.is("watch", raw.setSequence(next + 1).sumUp().sendTo(z), 0);
        isNow("60 bytes from NEXT + 1", z, next, "", 31);
    }

    /** Whatever order, doubling or overlap they come in. */
    private static void anyOrder(int next) {
        StreamWatch x = at(next);
        send(x, next + 6, "gh");
        send(x, next + 2, "cde");
        send(x, next + 2, "cde");
        isNow("two gaps", x, next, "", 5);
        send(x, next - 1, "xab");
        isNow("the first gap is filled", x, next + 5, "abcde", 2);
        send(x, next + 3, "XXfXX");
        isNow("the second gap is filled", x, next + 8, "abcdefgh", 0);
    }
}
