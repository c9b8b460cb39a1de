/** Promise 15: alert. AlertsTest has how many are kept. */
public final class Promise15Test {
    public static void main(String[] args) {
        whatAnAlertTells();
        whatIsAsked();
        Due.end();
    }

    private static void whatAnAlertTells() {
        StreamWatch x = new StreamWatch(0);
        Due.is("alert(0, 0)", x.alert(0, 0), -1);
        x.rule(0, 0);
        Talk.option(x, "zz", 0, 0, 0);
        x.rule(1, 80);
        Talk.option(x, "b", 0, 0, 0);
        Talk.send(x, 6, 0, 0, Talk.SYN, "azz");
        Due.is("alert", Talk.alertOf(x, 0), "0 1006 0 3");
        Talk.send(x, 6, 1, 0, Talk.ACK, "aabaa");
        Due.is("alert", Talk.alertOf(x, 0), "1 1006 1 3");
        Due.is("alert", Talk.alertOf(x, 1), "0 1006 0 3");
        int[] wrong = {-1, 4, Integer.MIN_VALUE, Integer.MAX_VALUE};
        for (int w : wrong) {
            Due.is("alert(0, " + w + ")", x.alert(0, w), -1);
            Due.is("alert(" + w + ", 0)", x.alert(w, 0), -1);
        }
        Due.is("alert(2, 0)", x.alert(2, 0), -1);
        Talk.send(x, 6, 1, 0, Talk.RST, "");
        Due.is("it outlives its flow", Talk.alertOf(x, 0), "1 1006 1 3");
    }

    /** "NONE if it is not kept or no such w", for each number of alerts up to those kept. */
    private static void whatIsAsked() {
        StreamWatch x = new StreamWatch(0);
        x.rule(2, 0);
        Talk.option(x, "a", 0, 0, 0);
        for (int i = 1; i <= 24; i++) {
            Due.is("alert", Talk.send(x, i % 8, 0, 0, Talk.SYN, "a"), 1);
            Due.is("the first", x.alert(i - 1, 1), 1001);
            Due.is("before the first", x.alert(i, 1), -1);
            Due.is("w 3", x.alert(i - 1, 3), 1);
            Due.is("w 4", x.alert(i - 1, 4), -1);
            Due.is("w -1", x.alert(i - 1, -1), -1);
        }
    }
}
