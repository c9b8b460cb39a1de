/** "An object is used for at most 512 calls after it has been made": all of them are answered. */
public final class CallsTest {
    public static void main(String[] args) {
        packetsToTheLast();
        otherCallsToTheLast();
        Due.end();
    }

    private static void packetsToTheLast() {
        StreamWatch x = new StreamWatch(0);
        for (int r = 0; r < 6; r++) {
            x.rule(2, 0);
            Talk.option(x, "a", 0, 0, 0);
        }
        for (int i = 0; i < 249; i++) {
            Due.is("packet " + i, Talk.send(x, i % 8, 0, i, Talk.SYN, "aaaaaaaa"), 6);
        }
        Due.is("call 511", x.alerts(), 249 * 6);
        Due.is("call 512", x.alert(23, 1), 1000 + 245 % 8);
    }

    private static void otherCallsToTheLast() {
        StreamWatch x = Talk.opened(1);
        for (int i = 0; i < 254; i++) {
            Due.is("heard of", x.watch(), 0);
            Due.is("alter", x.alter(39, 0), true);
        }
        Due.is("call 511", x.flow(0, 4), 0);
        Due.is("call 512", x.stream(0, 0, 1), 1);
    }
}
