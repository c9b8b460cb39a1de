/** Promise 8: watch, with the reasons, the flows, the streams and the rules of the Terms. */
public final class Promise08Test {
    private static final int SYN = Talk.SYN;
    private static final int ACK = Talk.ACK;
    private static final int FIN = Talk.FIN;
    private static final int RST = Talk.RST;

    public static void main(String[] args) {
        reasons();
        firstReasonCounts();
        lengthsOfHeaders();
        withoutFlow();
        wrongOnesChangeNothing();
        flowsMakeRoom();
        reset();
        ends();
        numbers();
        window();
        policies();
        finishes();
        fullText();
        manyAtOnce();
        Due.end();
    }

    private static void reasonIs(String why, int k, int bits, boolean seal, int want) {
        StreamWatch x = new StreamWatch(0);
        x.craft(0, 0, 100, SYN, 8, 0);
        x.alter(k, bits);
        if (seal) {
            x.seal();
        }
        Due.is(why, x.watch(), want);
        Due.is(why + ": flow", x.flow(0, 1), want < 0 ? -1 : 1000);
    }

    private static void reasons() {
        StreamWatch x = new StreamWatch(0);
        Due.is("empty", x.watch(), -2);
        x.put(8, 0x4500001300000000L);
        x.put(8, 0);
        x.put(3, 0);
        Due.is("19 bytes", x.watch(), -2);
        x.put(1, 0);
        Due.is("20 bytes", x.watch(), -4);
        reasonIs("byte 0 is 68", 0, 69 ^ 68, false, -3);
        reasonIs("byte 0 is 72", 0, 69 ^ 72, false, -3);
        reasonIs("byte 0 is 85", 0, 69 ^ 85, false, -3);
        reasonIs("LENGTH is 49", 3, 48 ^ 49, false, -4);
        reasonIs("LENGTH is 304", 2, 1, false, -4);
        reasonIs("LENGTH is 39", 3, 48 ^ 39, false, -4);
        reasonIs("LENGTH is 40", 3, 48 ^ 40, true, 0);
        reasonIs("sum of the IP header", 10, 1, false, -5);
        reasonIs("sum of the IP header", 1, 1, false, -5);
        reasonIs("no TCP, wrong sum", 9, 1, false, -5);
        reasonIs("sum of the TCP part", 36, 1, false, -9);
        reasonIs("sum of the TCP part", 47, 1, false, -9);
        reasonIs("header bytes of no matter", 1, 255, true, 0);
        reasonIs("header bytes of no matter", 8, 255, true, 0);
        reasonIs("TCP flags of no matter", 33, 0xE8, true, 0);
        reasonIs("lower bits of byte 12", 32, 0x0F, true, 0);
    }

    /** Sums are not made right by seal while there are other reasons: a swap keeps them right. */
    private static void swapped(String why, int k, int bits, int other, int want) {
        StreamWatch x = new StreamWatch(0);
        x.craft(0, 0, 100, SYN, 8, 0);
        x.alter(other, bits);
        x.seal();
        x.alter(other, bits);
        x.alter(k, bits);
        Due.is(why, x.watch(), want);
    }

    private static void firstReasonCounts() {
        swapped("a part", 6, 32, 4, -6);
        swapped("a later part", 7, 1, 5, -6);
        swapped("not to be parted", 6, 64, 4, 0);
        swapped("the highest bit", 6, 128, 4, 0);
        swapped("no TCP", 9, 16, 5, -7);
        swapped("TCP header of 4 words", 32, 0x10, 34, -8);
        swapped("TCP header of 9 words", 32, 0xC0, 34, -8);
        swapped("TCP header of 1 word", 32, 0x40, 34, -8);
        StreamWatch w = new StreamWatch(0);
        Talk.write(w, 5, 8, 100, SYN, "01234567", "");
        w.alter(32, 0x80 ^ 0x90);
        Due.is("TCP header of 9 words that is there", w.watch(), -8);
        StreamWatch x = new StreamWatch(0);
        x.craft(0, 0, 100, SYN, 0, 0);
        x.alter(32, 0x50 ^ 0x60);
        Due.is("TCP header beyond LENGTH, wrong sum", x.watch(), -8);
        x.alter(9, 1);
        Due.is("and a wrong sum of the IP header", x.watch(), -5);
        x.alter(3, 1);
        Due.is("and a wrong LENGTH", x.watch(), -4);
        x.alter(0, 1 << 7);
        Due.is("and a wrong byte 0", x.watch(), -3);
    }

    private static void lengthsOfHeaders() {
        StreamWatch x = new StreamWatch(0);
        Talk.write(x, 7, 8, 8, SYN, "", "");
        Due.is("headers alone", x.watch(), 0);
        Talk.write(x, 6, 7, 9, ACK, "abc", "xyz");
        Due.is("behind LENGTH", x.watch(), 0);
        Due.is("text", Talk.textOf(x, 0, 0), "abc");
        Talk.write(x, 7, 5, 12, ACK, "de", "");
        x.alter(3, (48 + 2) ^ 47);
        Due.is("LENGTH less than the IP header and 20", x.watch(), -4);
        Talk.write(x, 5, 5, 12, ACK, "0123456789".repeat(6), "");
        Due.is("100 bytes", x.watch(), 0);
        Due.is("text", Talk.textOf(x, 0, 0), "abc" + "0123456789".repeat(3) + "01");
    }

    private static void withoutFlow() {
        StreamWatch x = new StreamWatch(0);
        int[] flags = {0, ACK, SYN | ACK, FIN, RST, RST | ACK, FIN | ACK, SYN | ACK | RST, 40};
        for (int one : flags) {
            Due.is("flags " + one, Talk.send(x, 0, 0, 5, one, "ab"), -10);
            Due.is("flow", x.flow(0, 0), -1);
        }
        Due.is("SYN", Talk.send(x, 0, 0, 5, SYN, "ab"), 0);
        Due.is("ACK of another", Talk.send(x, 1, 0, 5, ACK, "ab"), -10);
        Due.is("SYN and ACK of the flow", Talk.send(x, 0, 1, 5, SYN | ACK, "ab"), 0);
        Due.is("text back", Talk.textOf(x, 0, 1), "ab");
    }

    private static void wrongOnesChangeNothing() {
        StreamWatch x = Talk.opened(0);
        Talk.send(x, 1, 0, 0, SYN, "");
        Talk.craft(x, 0, 0, 1, ACK, "ab");
        x.alter(40, 1);
        Due.is("watch", x.watch(), -9);
        Due.is("stream", Talk.streamOf(x, 0, 0), "0 1 0 0");
        Due.is("heard of later", x.flow(0, 4), 1);
        Due.is("without a flow", Talk.send(x, 2, 0, 0, ACK, "ab"), -10);
        Due.is("heard of later", x.flow(1, 4), 0);
    }

    private static void flowsMakeRoom() {
        StreamWatch x = new StreamWatch(0);
        for (int c = 0; c < 4; c++) {
            Due.is("SYN", Talk.send(x, c, 0, 0, SYN, "a"), 0);
            Due.is("client", x.flow(c, 1), 1000 + c);
        }
        Talk.send(x, 0, 1, 0, ACK, "");
        Due.is("SYN of a fifth", Talk.send(x, 4, 0, 9, SYN, ""), 0);
        Due.is("place 1", x.flow(1, 1), 1004);
        Due.is("place 1 is new", Talk.streamOf(x, 1, 0), "0 10 0 0");
        Due.is("place 0", x.flow(0, 1), 1000);
        Talk.send(x, 2, 0, 0, RST, "");
        Talk.send(x, 0, 0, 0, RST, "");
        Due.is("SYN", Talk.send(x, 5, 0, 9, SYN, ""), 0);
        Due.is("lowest free place", x.flow(0, 1), 1005);
        Due.is("SYN", Talk.send(x, 6, 0, 9, SYN, ""), 0);
        Due.is("next free place", x.flow(2, 1), 1006);
        Due.is("SYN again", Talk.send(x, 3, 0, 9, SYN, ""), 0);
        Due.is("it belongs to its flow", x.flow(3, 4), 0);
        Due.is("SYN", Talk.send(x, 7, 0, 9, SYN, ""), 0);
        Due.is("longest not heard of", x.flow(1, 1), 1007);
    }

    private static void reset() {
        StreamWatch x = Talk.opened(0);
        x.rule(2, 0);
        Talk.option(x, "a", 0, 0, 0);
        Due.is("RST", Talk.send(x, 0, 1, 7, RST | ACK, "a"), 0);
        Due.is("flow", x.flow(0, 0), -1);
        Due.is("stream", x.stream(0, 0, 0), -1);
        Due.is("alerts", x.alerts(), 0);
        Due.is("RST again", Talk.send(x, 0, 1, 7, RST | ACK, "a"), -10);
        Due.is("SYN and RST", Talk.send(x, 0, 0, 7, SYN | RST, "a"), 0);
        Due.is("flow", x.flow(0, 0), -1);
        for (int c = 0; c < 4; c++) {
            Talk.send(x, c, 0, 0, SYN, "");
        }
        Due.is("SYN and RST, no place free", Talk.send(x, 4, 0, 7, SYN | RST, "a"), 0);
        Due.is("the oldest is gone", x.flow(0, 0), -1);
        Due.is("the next is there", x.flow(1, 1), 1001);
        Due.is("SYN", Talk.send(x, 1, 0, 0, SYN | FIN, ""), 0);
    }

    private static void ends() {
        StreamWatch x = new StreamWatch(0);
        Talk.craft(x, 0, 1, 5, SYN, "s");
        Due.is("SYN of the other side", x.watch(), 0);
        Due.is("client", x.flow(0, 1), 80);
        Due.is("server", x.flow(0, 3), 1000);
        Talk.send(x, 0, 0, 8, ACK, "c");
        Due.is("stream 0", Talk.textOf(x, 0, 0), "s");
        Due.is("stream 1", Talk.textOf(x, 0, 1), "c");
        Talk.craft(x, 0, 0, 9, ACK, "d");
        x.alter(15, 4);
        x.seal();
        Due.is("another host", x.watch(), -10);
        Talk.craft(x, 0, 0, 9, ACK, "d");
        x.alter(21, 4);
        x.seal();
        Due.is("another port", x.watch(), -10);
        Talk.craft(x, 0, 0, 9, SYN, "d");
        x.alter(23, 4);
        x.seal();
        Due.is("another server's port", x.watch(), 0);
        Due.is("is another flow", x.flow(1, 3), 84);
        oneEndTwice();
    }

    private static void oneEndTwice() {
        StreamWatch x = Talk.opened(0);
        Talk.craft(x, 0, 0, 5, ACK, "q");
        x.alter(18, 1);
        x.alter(22, 3);
        x.alter(23, 80 ^ 232);
        x.seal();
        Due.is("client to client is not of the flow", x.watch(), -10);
    }

    private static void numbers() {
        StreamWatch x = new StreamWatch(0);
        Talk.send(x, 0, 0, -3, SYN, "abcdef");
        Due.is("data of SYN over the wrap", Talk.textOf(x, 0, 0), "abcdef");
        Due.is("stream", Talk.streamOf(x, 0, 0), "6 4 0 0");
        Talk.send(x, 0, 0, 3, SYN, "gh");
        Due.is("data of SYN again", Talk.textOf(x, 0, 0), "abcdefgh");
        Talk.send(x, 0, 1, 77, ACK, "");
        Due.is("NEXT without SYN", Talk.streamOf(x, 0, 1), "0 77 0 0");
        Talk.send(x, 0, 1, 90, SYN | ACK, "");
        Due.is("NEXT stays", Talk.streamOf(x, 0, 1), "0 77 0 0");
        StreamWatch y = Talk.opened(0);
        Talk.send(y, 0, 1, Integer.MAX_VALUE - 1, ACK, "abcd");
        Due.is("over the largest int", Talk.streamOf(y, 0, 1), "4 " + (Integer.MIN_VALUE + 2) + " 0 0");
        Talk.send(y, 0, 1, Integer.MAX_VALUE, ACK, "BCDE");
        Due.is("over the largest int", Talk.textOf(y, 0, 1), "abcdE");
        Talk.send(y, 0, 1, Integer.MIN_VALUE + 3 + Integer.MIN_VALUE, ACK, "x");
        Due.is("half the numbers away is before", y.stream(0, 1, 2), 0);
    }

    private static void window() {
        StreamWatch x = Talk.opened(0);
        Talk.send(x, 0, 0, 1 + 25, ACK, "zzzzzzAB");
        Due.is("up to NEXT + 31", x.stream(0, 0, 2), 7);
        Talk.send(x, 0, 0, 1 + 32, ACK, "q");
        Due.is("behind NEXT + 31", x.stream(0, 0, 2), 7);
        Talk.send(x, 0, 0, -3, ACK, "qqqqa");
        Due.is("before NEXT", Talk.textOf(x, 0, 0), "a");
        Due.is("stream", Talk.streamOf(x, 0, 0), "1 2 7 0");
        Talk.send(x, 0, 0, 1 + 32, ACK, "B");
        Due.is("now it is NEXT + 31", x.stream(0, 0, 2), 8);
        for (int at = 2; at < 26; at += 8) {
            Talk.send(x, 0, 0, at, ACK, "bcdefghi");
        }
        Due.is("text", Talk.textOf(x, 0, 0), "a" + "bcdefghi".repeat(3) + "zzzzzzAB");
        Due.is("stream", Talk.streamOf(x, 0, 0), "33 34 0 0");
        Talk.send(x, 0, 0, 2, ACK, "x");
        Due.is("an old one", Talk.streamOf(x, 0, 0), "33 34 0 0");
    }

    private static void policies() {
        for (int last = 0; last < 2; last++) {
            StreamWatch x = Talk.opened(last);
            Talk.send(x, 0, 0, 2, ACK, "1");
            Talk.send(x, 0, 0, 4, ACK, "3");
            Talk.send(x, 0, 0, 1, ACK, "ABCDE");
            Due.is("overlap", Talk.textOf(x, 0, 0), last == 0 ? "A1C3E" : "ABCDE");
            Talk.send(x, 0, 0, 1, ACK, "vwxyz!");
            Due.is("what is in the text stays", Talk.textOf(x, 0, 0),
                    last == 0 ? "A1C3E!" : "ABCDE!");
        }
    }

    private static void finishes() {
        StreamWatch x = Talk.opened(0);
        Talk.send(x, 0, 0, 3, FIN, "cd");
        Due.is("a gap is before FIN", Talk.streamOf(x, 0, 0), "0 1 2 0");
        Talk.send(x, 0, 0, 1, ACK, "ab");
        Due.is("FIN is not remembered", Talk.streamOf(x, 0, 0), "4 5 0 0");
        Talk.send(x, 0, 0, 4, FIN, "");
        Due.is("FIN before NEXT", x.stream(0, 0, 3), 0);
        Talk.send(x, 0, 0, 6, FIN, "");
        Due.is("FIN behind NEXT", x.stream(0, 0, 3), 0);
        Talk.send(x, 0, 0, 2, FIN, "bcd");
        Due.is("FIN with old data", x.stream(0, 0, 3), 1);
        Talk.send(x, 0, 0, 5, ACK, "ef");
        Due.is("an ended stream takes data", Talk.textOf(x, 0, 0), "abcdef");
        Due.is("and stays ended", x.stream(0, 0, 3), 1);
        Due.is("FIN back", Talk.send(x, 0, 1, 9, FIN, ""), 0);
        Due.is("both ended", x.flow(0, 0), -1);
        Due.is("SYN and FIN", Talk.send(x, 0, 0, 9, SYN | FIN, "a"), 0);
        Due.is("is ended", Talk.streamOf(x, 0, 0), "1 11 0 1");
        Due.is("other stream is new", Talk.streamOf(x, 0, 1), "0 0 0 0");
        StreamWatch y = Talk.opened(0);
        Talk.send(y, 0, 0, 2, ACK, "bcd");
        Talk.send(y, 0, 0, 1, FIN, "a");
        Due.is("NEXT went beyond the data", Talk.streamOf(y, 0, 0), "4 5 0 0");
    }

    private static void fullText() {
        StreamWatch x = Talk.opened(0);
        for (int i = 0; i < 9; i++) {
            Talk.send(x, 0, 0, 1 + 8 * i, ACK, "abcdefgh");
        }
        Talk.send(x, 0, 0, 73, ACK, "1234567");
        x.rule(0, 0);
        Talk.option(x, "!", 0, 0, 0);
        x.rule(0, 0);
        Talk.option(x, "?", 2, 0, 0);
        Due.is("the 80th byte", Talk.send(x, 0, 0, 80, ACK, "8!!"), 1);
        Due.is("stream", Talk.streamOf(x, 0, 0), "80 83 0 0");
        Due.is("alert", Talk.alertOf(x, 0), "1 1000 0 80");
        x.rule(0, 0);
        Talk.option(x, "8", 0, 0, 0);
        Due.is("no rule is looked at any more", Talk.send(x, 0, 0, 83, ACK, "8"), 0);
        Due.is("FIN behind a full text", Talk.send(x, 0, 0, 84, FIN, "8"), 0);
        Due.is("stream", Talk.streamOf(x, 0, 0), "80 85 0 1");
    }

    private static void manyAtOnce() {
        StreamWatch x = Talk.opened(0);
        x.rule(0, 0);
        Talk.option(x, "b", 0, 0, 0);
        x.rule(2, 80);
        Talk.option(x, "a", 0, 0, 0);
        x.rule(0, 0);
        Talk.option(x, "ab", 0, 0, 0);
        Due.is("held bytes raise nothing", Talk.send(x, 0, 0, 2, ACK, "bc"), 0);
        Due.is("three rules", Talk.send(x, 0, 0, 1, ACK, "a"), 3);
        Due.is("latest", Talk.alertOf(x, 0), "2 1000 0 2");
        Due.is("before it", Talk.alertOf(x, 1), "0 1000 0 2");
        Due.is("first", Talk.alertOf(x, 2), "1 1000 0 1");
        Due.is("once a stream", Talk.send(x, 0, 0, 4, ACK, "abab"), 0);
        Due.is("the other stream", Talk.send(x, 0, 1, 4, ACK, "abab"), 1);
        Talk.send(x, 0, 0, 0, RST, "");
        Due.is("a new flow in the place", Talk.send(x, 0, 0, 0, SYN, "ab"), 3);
        Due.is("alerts", x.alerts(), 7);
    }
}
