/** Promise 14: alerts. */
public final class Promise14Test {
    public static void main(String[] args) {
        StreamWatch x = new StreamWatch(0);
        Due.is("alerts()", x.alerts(), 0);
        for (int r = 0; r < 6; r++) {
            x.rule(2, 0);
            Talk.option(x, "a", 0, 0, 0);
        }
        Due.is("alerts()", x.alerts(), 0);
        for (int i = 1; i <= 10; i++) {
            Due.is("watch", Talk.send(x, i % 8, 0, 0, Talk.SYN, "ba"), 6);
            Due.is("alerts()", x.alerts(), 6 * i);
            Due.is("watch again", x.watch(), 0);
            Due.is("alerts()", x.alerts(), 6 * i);
        }
        x.wipe();
        Due.is("watch", x.watch(), -2);
        Due.is("alerts()", x.alerts(), 60);
        Due.end();
    }
}
