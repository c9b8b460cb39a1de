/** Promise 13: text. */
public final class Promise13Test {
    public static void main(String[] args) {
        StreamWatch x = Talk.opened(0);
        Due.is("text(0, 0, 0)", x.text(0, 0, 0), -1);
        Talk.send(x, 0, 0, 1, Talk.ACK, "\0a\u00ff");
        Talk.send(x, 0, 0, 6, Talk.ACK, "held");
        Talk.send(x, 0, 1, 1, Talk.ACK, "Z");
        Due.is("text(0, 0, 0)", x.text(0, 0, 0), 0);
        Due.is("text(0, 0, 1)", x.text(0, 0, 1), 97);
        Due.is("text(0, 0, 2)", x.text(0, 0, 2), 255);
        Due.is("text(0, 1, 0)", x.text(0, 1, 0), 90);
        int[] wrong = {-1, 3, 5, 80, Integer.MIN_VALUE, Integer.MAX_VALUE};
        for (int k : wrong) {
            Due.is("text(0, 0, " + k + ")", x.text(0, 0, k), -1);
            Due.is("text(0, " + k + ", 0)", x.text(0, k, 0), -1);
            Due.is("text(" + k + ", 0, 0)", x.text(k, 0, 0), -1);
        }
        Due.is("text(0, 2, 0)", x.text(0, 2, 0), -1);
        Due.is("text(4, 0, 0)", x.text(4, 0, 0), -1);
        Talk.send(x, 0, 0, 0, Talk.RST, "");
        Due.is("of a flow that is gone", x.text(0, 0, 0), -1);
        Talk.send(x, 0, 0, 0, Talk.SYN, "b");
        Due.is("of a new flow there", Talk.textOf(x, 0, 0), "b");
        Due.is("of a new flow there", x.text(0, 0, 1), -1);
        upToEighty();
        Due.end();
    }

    private static void upToEighty() {
        StreamWatch x = Talk.opened(0);
        for (int i = 0; i < 11; i++) {
            Talk.send(x, 0, 0, 1 + 8 * i, Talk.ACK, "1234567" + (char) ('a' + i));
        }
        Due.is("text(0, 0, 79)", x.text(0, 0, 79), 'j');
        Due.is("text(0, 0, 80)", x.text(0, 0, 80), -1);
    }
}
