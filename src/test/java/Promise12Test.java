/** Promise 12: stream. */
public final class Promise12Test {
    public static void main(String[] args) {
        StreamWatch x = Talk.opened(0);
        Due.is("stream 0", Talk.streamOf(x, 0, 0), "0 1 0 0");
        Due.is("stream 1, NEXT is none", Talk.streamOf(x, 0, 1), "0 0 0 0");
        Talk.send(x, 0, 0, 1, Talk.ACK, "abc");
        Talk.send(x, 0, 0, 7, Talk.ACK, "xy");
        Talk.send(x, 0, 0, 8, Talk.ACK, "yz");
        Due.is("stream 0", Talk.streamOf(x, 0, 0), "3 4 3 0");
        Talk.send(x, 0, 0, 4, Talk.FIN, "");
        Due.is("stream 0 ended", Talk.streamOf(x, 0, 0), "3 4 3 1");
        Due.is("stream 1", Talk.streamOf(x, 0, 1), "0 0 0 0");
        Talk.send(x, 0, 1, -1, Talk.ACK, "");
        Due.is("NEXT is -1", Talk.streamOf(x, 0, 1), "0 -1 0 0");
        int[] wrong = {-1, 4, Integer.MIN_VALUE, Integer.MAX_VALUE};
        for (int w : wrong) {
            Due.is("stream(0, 0, " + w + ")", x.stream(0, 0, w), -1);
            Due.is("stream(0, " + w + ", 0)", x.stream(0, w, 0), -1);
            Due.is("stream(" + w + ", 0, 0)", x.stream(w, 0, 0), -1);
        }
        Due.is("stream(0, 2, 0)", x.stream(0, 2, 0), -1);
        Due.is("stream(1, 0, 0)", x.stream(1, 0, 0), -1);
        Talk.send(x, 0, 1, 5, Talk.RST, "");
        Due.is("of a flow that is gone", Talk.streamOf(x, 0, 0), "-1 -1 -1 -1");
        Talk.send(x, 1, 0, 20, Talk.SYN, "");
        Due.is("of a new flow there", Talk.streamOf(x, 0, 0), "0 21 0 0");
        Due.is("of a new flow there", Talk.streamOf(x, 0, 1), "0 0 0 0");
        Talk.send(x, 1, 0, 21, Talk.ACK, "abc");
        Due.is("nothing held is left of the old one", Talk.streamOf(x, 0, 0), "3 24 0 0");
        Due.end();
    }
}
