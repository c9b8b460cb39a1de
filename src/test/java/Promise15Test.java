/** Promise 15: alert. */
public final class Promise15Test {
    public static void main(String[] args) {
        whatAnAlertTells();
        theLatestAreKept();
        Due.end();
    }

    private static void whatAnAlertTells() {
        StreamWatch x = new StreamWatch(0);
        Due.is("alert(0, 0)", x.alert(0, 0), -1);
        x.rule(0, 0);
        Talk.option(x, "zz", 0, 0, 0);
        x.rule(1, 80);
        Talk.option(x, "b", 0, 0, 0);
        Talk.send(x, 6, 0, 0, Talk.SYN, "azz");
        Due.is("alert", Talk.alertOf(x, 0), "0 1006 0 3");
        Talk.send(x, 6, 1, 0, Talk.ACK, "aabaa");
        Due.is("alert", Talk.alertOf(x, 0), "1 1006 1 3");
        Due.is("alert", Talk.alertOf(x, 1), "0 1006 0 3");
        int[] wrong = {-1, 4, Integer.MIN_VALUE, Integer.MAX_VALUE};
        for (int w : wrong) {
            Due.is("alert(0, " + w + ")", x.alert(0, w), -1);
            Due.is("alert(" + w + ", 0)", x.alert(w, 0), -1);
        }
        Due.is("alert(2, 0)", x.alert(2, 0), -1);
        Talk.send(x, 6, 1, 0, Talk.RST, "");
        Due.is("it outlives its flow", Talk.alertOf(x, 0), "1 1006 1 3");
    }

    private static void theLatestAreKept() {
        StreamWatch x = new StreamWatch(0);
        for (int r = 0; r < 5; r++) {
            x.rule(2, 0);
            Talk.option(x, "a", 0, r, 0);
        }
        for (int i = 0; i < 12; i++) {
            Talk.send(x, i % 8, 0, 0, Talk.SYN, "aaaaa");
            int kept = Math.min(24, 5 * i + 5);
            for (int k = 0; k < kept; k++) {
                int number = 5 * i + 4 - k;
                int port = 1000 + number / 5 % 8;
                Due.is("alert " + k, Talk.alertOf(x, k),
                        number % 5 + " " + port + " 0 " + (number % 5 + 1));
            }
            Due.is("behind the last kept", Talk.alertOf(x, kept), "-1 -1 -1 -1");
        }
    }
}
