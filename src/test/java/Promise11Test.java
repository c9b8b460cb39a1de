/** Promise 11: flow. */
public final class Promise11Test {
    public static void main(String[] args) {
        StreamWatch x = Talk.opened(0);
        Due.is("client's host", x.flow(0, 0), 167772161);
        Due.is("client's port", x.flow(0, 1), 1000);
        Due.is("server's host", x.flow(0, 2), 167772417);
        Due.is("server's port", x.flow(0, 3), 80);
        Due.is("heard of later", x.flow(0, 4), 0);
        int[] wrong = {-1, 5, Integer.MIN_VALUE, Integer.MAX_VALUE};
        for (int w : wrong) {
            Due.is("flow(0, " + w + ")", x.flow(0, w), -1);
            Due.is("flow(" + w + ", 1)", x.flow(w, 1), -1);
        }
        for (int f = 1; f <= 4; f++) {
            Due.is("flow(" + f + ", 0)", x.flow(f, 0), -1);
            Due.is("flow(" + f + ", 4)", x.flow(f, 4), -1);
        }
        hostsAboveTheLargestInt();
        orderOfHearing();
        Due.end();
    }

    private static void hostsAboveTheLargestInt() {
        StreamWatch x = new StreamWatch(0);
        x.craft(0, 0, 0, 2, 0, 0);
        x.alter(12, 192);
        x.alter(16, 245);
        x.alter(20, 252);
        x.seal();
        Due.is("watch", x.watch(), 0);
        Due.is("client's host", x.flow(0, 0), 0xCA000001);
        Due.is("client's port", x.flow(0, 1), 0xFFE8);
        Due.is("server's host", x.flow(0, 2), 0xFF000101);
    }

    private static String later(StreamWatch x) {
        return x.flow(0, 4) + " " + x.flow(1, 4) + " " + x.flow(2, 4) + " " + x.flow(3, 4);
    }

    private static void orderOfHearing() {
        StreamWatch x = new StreamWatch(0);
        for (int c = 0; c < 4; c++) {
            Talk.send(x, c, 0, 0, Talk.SYN, "");
        }
        Due.is("as made", later(x), "3 2 1 0");
        Talk.send(x, 1, 1, 0, Talk.ACK, "");
        Due.is("flow 1 heard of", later(x), "3 0 2 1");
        Talk.send(x, 3, 0, 0, Talk.ACK, "");
        Due.is("flow 3 heard of", later(x), "3 1 2 0");
        Talk.send(x, 3, 0, 0, Talk.ACK, "");
        Due.is("flow 3 heard of again", later(x), "3 1 2 0");
        Talk.send(x, 1, 0, 0, Talk.RST, "");
        Due.is("flow 1 gone", later(x), "2 -1 1 0");
        Talk.send(x, 5, 0, 0, Talk.SYN, "");
        Due.is("a new one in place 1", later(x), "3 0 2 1");
        Talk.send(x, 6, 0, 0, Talk.ACK, "");
        Due.is("one without a flow", later(x), "3 0 2 1");
        Talk.send(x, 7, 0, 0, Talk.SYN, "");
        Due.is("one for the oldest", later(x), "0 1 3 2");
        Due.is("in place 0", x.flow(0, 1), 1007);
    }
}
