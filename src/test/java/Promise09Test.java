/** Promise 9: rule. */
public final class Promise09Test {
    public static void main(String[] args) {
        edgesOfArguments();
        atMostSix();
        holdsNowhereWithoutOptions();
        waysAndPorts();
        Due.end();
    }

    private static final int[][] WRONG = {{-1, 0}, {3, 0}, {0, -1}, {0, 65536}, {-1, -1}, {3, 65536},
        {Integer.MIN_VALUE, 0}, {Integer.MAX_VALUE, 0}, {0, Integer.MIN_VALUE}, {0, Integer.MAX_VALUE},
        {256, 0}, {0, 65536 + 80}};

    private static void areRefused(StreamWatch x) {
        for (int[] w : WRONG) {
            Due.isThrown("rule(" + w[0] + ", " + w[1] + ")", IllegalArgumentException.class,
                    () -> x.rule(w[0], w[1]));
        }
    }

    /** "if way is not 0 .. 2 or port not 0 .. 65535" */
    private static void edgesOfArguments() {
        int[] ports = {0, 1, 65534, 65535};
        for (int way = 0; way <= 2; way++) {
            for (int port : ports) {
                StreamWatch x = new StreamWatch(0);
                areRefused(x);
                Due.is("rule(" + way + ", " + port + ")", x.rule(way, port), 0);
            }
        }
    }

    /** "IllegalStateException if there are 6" */
    private static void atMostSix() {
        StreamWatch x = new StreamWatch(0);
        for (int r = 0; r < 6; r++) {
            Due.is("rule", x.rule(r % 3, 80), r);
        }
        Due.isThrown("a seventh", IllegalStateException.class, () -> x.rule(0, 0));
        Due.isThrown("a seventh again", IllegalStateException.class, () -> x.rule(2, 65535));
        // The document names IllegalArgumentException first; so it comes when both could.
        areRefused(x);
        Due.is("option of the latest", Talk.option(x, "a", 0, 0, 0), 1);
    }

    private static void holdsNowhereWithoutOptions() {
        StreamWatch x = Talk.opened(0);
        x.rule(0, 0);
        Due.is("watch", Talk.send(x, 0, 0, 1, Talk.ACK, "abc"), 0);
        Talk.option(x, "abc", 0, 0, 0);
        Due.is("watch with an option and no new byte", Talk.send(x, 0, 0, 1, Talk.ACK, "abc"), 0);
        Due.is("watch with a new byte", Talk.send(x, 0, 0, 4, Talk.ACK, "d"), 1);
        Due.is("alert", Talk.alertOf(x, 0), "0 1000 0 4");
    }

    private static int raised(int ruleWay, int port, int way) {
        StreamWatch x = Talk.opened(0);
        x.rule(ruleWay, port);
        Talk.option(x, "a", 0, 0, 0);
        return Talk.send(x, 0, way, 1, Talk.ACK, "a");
    }

    private static void waysAndPorts() {
        for (int way = 0; way < 2; way++) {
            Due.is("way 0", raised(0, 0, way), 1 - way);
            Due.is("way 1", raised(1, 0, way), way);
            Due.is("way 2", raised(2, 0, way), 1);
            Due.is("the server's port", raised(2, 80, way), 1);
            Due.is("the client's port", raised(2, 1000, way), 0);
            Due.is("another port", raised(2, 81, way), 0);
        }
    }
}
