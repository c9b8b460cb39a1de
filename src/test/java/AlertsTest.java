/** Terms: "The latest 24 alerts are kept." */
public final class AlertsTest {
    public static void main(String[] args) {
        upToTheLimit();
        sixAtOnceOverTheLimit();
        manyTimesOver();
        Due.end();
    }

    private static StreamWatch withRules(int count) {
        StreamWatch x = new StreamWatch(0);
        for (int r = 0; r < count; r++) {
            x.rule(2, 0);
            Talk.option(x, "a", 0, 0, 0);
        }
        return x;
    }

    /** One alert at a time; the number of bytes that the text had tells which one it is. */
    private static void upToTheLimit() {
        for (int total = 22; total <= 27; total++) {
            StreamWatch x = withRules(1);
            for (int i = 1; i <= total; i++) {
                Due.is("alert", Talk.send(x, i % 8, 0, 0, Talk.SYN, "-----a".substring(i % 6)), 1);
            }
            Due.is("alerts", x.alerts(), total);
            for (int k = 0; k <= 25; k++) {
                int i = total - k;
                boolean kept = k < 24 && i >= 1;
                Due.is("alert " + k + " of " + total, Talk.alertOf(x, k),
                        kept ? "0 " + (1000 + i % 8) + " 0 " + (6 - i % 6) : "-1 -1 -1 -1");
            }
        }
    }

    /** The limit is passed within one call. */
    private static void sixAtOnceOverTheLimit() {
        StreamWatch x = withRules(5);
        for (int i = 0; i < 4; i++) {
            Due.is("five", Talk.send(x, i, 0, 0, Talk.SYN, "a"), 5);
        }
        Due.is("alert 19", Talk.alertOf(x, 19), "0 1000 0 1");
        Due.is("alert 20", Talk.alertOf(x, 20), "-1 -1 -1 -1");
        Due.is("five", Talk.send(x, 3, 1, 0, Talk.ACK, "-a"), 5);
        Due.is("alerts", x.alerts(), 25);
        Due.is("alert 0", Talk.alertOf(x, 0), "4 1003 1 2");
        Due.is("alert 4", Talk.alertOf(x, 4), "0 1003 1 2");
        Due.is("alert 5", Talk.alertOf(x, 5), "4 1003 0 1");
        Due.is("alert 23", Talk.alertOf(x, 23), "1 1000 0 1");
        Due.is("alert 24", Talk.alertOf(x, 24), "-1 -1 -1 -1");
    }

    private static void manyTimesOver() {
        StreamWatch x = withRules(6);
        for (int i = 0; i < 40; i++) {
            Due.is("six", Talk.send(x, i % 8, 0, 0, Talk.SYN, "a"), 6);
        }
        Due.is("alerts", x.alerts(), 240);
        for (int k = 0; k < 24; k++) {
            Due.is("alert " + k, Talk.alertOf(x, k), (5 - k % 6) + " " + (1007 - k / 6) + " 0 1");
        }
        Due.is("alert 24", Talk.alertOf(x, 24), "-1 -1 -1 -1");
    }
}
