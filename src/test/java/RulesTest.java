/** Terms: RULES, the streams and ports they are for, and when they raise an ALERT. */
public final class RulesTest {
    private static final int SYN = Talk.SYN;
    private static final int ACK = Talk.ACK;
    private static final int NOT = 2;

    public static void main(String[] args) {
        atMostSix();
        wayOfTheStream();
        serversPort();
        edgesOfPorts();
        withoutOptions();
        oneToThreeOptions();
        whenTheTextHasGrown();
        afterEveryByte();
        onceOnAStream();
        againOnAnotherStream();
        lesserNumberFirst();
        Due.end();
    }

    private static void ruleFor(StreamWatch x, int way, int port, String content) {
        x.rule(way, port);
        Talk.option(x, content, 0, 0, 0);
    }

    /** "RULES are numbered 0, 1, .., at most 6." */
    private static void atMostSix() {
        StreamWatch x = Talk.opened(0);
        for (int r = 0; r < 6; r++) {
            Due.is("rule", x.rule(0, 0), r);
            Talk.option(x, "a", 0, 0, 0);
        }
        Due.isThrown("a seventh", IllegalStateException.class, () -> x.rule(0, 0));
        Due.is("all six raise", Talk.send(x, 0, 0, 1, ACK, "a"), 6);
        for (int r = 0; r < 6; r++) {
            Due.is("rule of an alert", x.alert(5 - r, 0), r);
        }
    }

    /** "A rule has a WAY (0: stream 0, 1: stream 1, 2: both)" */
    private static void wayOfTheStream() {
        int[][] want = {{1, 0}, {0, 1}, {1, 1}};
        for (int ruleWay = 0; ruleWay <= 2; ruleWay++) {
            for (int way = 0; way < 2; way++) {
                StreamWatch x = Talk.opened(0);
                ruleFor(x, ruleWay, 0, "a");
                Due.is("way " + ruleWay + ", stream " + way, Talk.send(x, 0, way, 1, ACK, "a"),
                        want[ruleWay][way]);
            }
        }
    }

    private static int raised(int port, int clientPort, int serverPort) {
        StreamWatch x = new StreamWatch(0);
        ruleFor(x, 2, port, "a");
        return Raw.plain("a").setTwo(20, clientPort).setTwo(22, serverPort).sumUp().sendTo(x);
    }

    /** "the server's port (0: any)" */
    private static void serversPort() {
        Due.is("any", raised(0, 1000, 80), 1);
        Due.is("the server's", raised(80, 1000, 80), 1);
        Due.is("one less", raised(79, 1000, 80), 0);
        Due.is("one more", raised(81, 1000, 80), 0);
        Due.is("the client's", raised(1000, 1000, 80), 0);
        Due.is("both", raised(80, 80, 80), 1);
        StreamWatch x = Talk.opened(0);
        ruleFor(x, 1, 80, "a");
        ruleFor(x, 1, 1000, "a");
        Due.is("on the stream back", Talk.send(x, 0, 1, 1, ACK, "a"), 1);
        Due.is("the rule", x.alert(0, 0), 0);
    }

    private static void edgesOfPorts() {
        Due.is("65535", raised(65535, 1000, 65535), 1);
        Due.is("65535 and 65534", raised(65535, 1000, 65534), 0);
        Due.is("65535 and 255", raised(65535, 1000, 255), 0);
        Due.is("1", raised(1, 1000, 1), 1);
        Due.is("1 and 257", raised(1, 1000, 257), 0);
        Due.is("1 and 0", raised(1, 1000, 0), 0);
        Due.is("any and 0", raised(0, 1000, 0), 1);
        Due.is("any and 65535", raised(0, 1000, 65535), 1);
    }

    /** "A new rule without options, which holds nowhere" */
    private static void withoutOptions() {
        StreamWatch x = Talk.opened(0);
        x.rule(2, 0);
        Due.is("no option", Talk.send(x, 0, 0, 1, ACK, "abc"), 0);
        ruleFor(x, 2, 0, "d");
        Due.is("an option of another rule", Talk.send(x, 0, 0, 4, ACK, "d"), 1);
        Due.is("the other rule", x.alert(0, 0), 1);
    }

    /** "and 1 to 3 OPTIONS" */
    private static void oneToThreeOptions() {
        String[] contents = {"a", "b", "c"};
        for (int count = 1; count <= 3; count++) {
            for (int missing = 0; missing <= count; missing++) {
                StreamWatch x = Talk.opened(0);
                x.rule(0, 0);
                for (int i = 0; i < count; i++) {
                    Due.is("option", Talk.option(x, contents[i], 0, 0, 0), i + 1);
                }
                String text = missing < count ? "abc".replace(contents[missing], "-") : "abc";
                Due.is(count + " options on " + text, Talk.send(x, 0, 0, 1, ACK, text),
                        missing < count ? 0 : 1);
            }
        }
    }

    /** "A rule raises an ALERT when a stream's text has grown by a byte" */
    private static void whenTheTextHasGrown() {
        StreamWatch x = Talk.opened(0);
        Talk.send(x, 0, 0, 1, ACK, "abc");
        ruleFor(x, 0, 0, "b");
        Due.is("old bytes", Talk.send(x, 0, 0, 1, ACK, "abc"), 0);
        Due.is("no bytes", Talk.send(x, 0, 0, 4, ACK, ""), 0);
        Due.is("held bytes", Talk.send(x, 0, 0, 5, ACK, "e"), 0);
        Due.is("lost bytes", Talk.send(x, 0, 0, 4 + 32, ACK, "b"), 0);
        Due.is("a byte of the other stream", Talk.send(x, 0, 1, 4, ACK, "b"), 0);
        Due.is("a new byte", Talk.send(x, 0, 0, 4, ACK, "d"), 1);
        Due.is("alert", Talk.alertOf(x, 0), "0 1000 0 4");
    }

    /** A rule that holds only for a while between two bytes of one packet is seen. */
    private static void afterEveryByte() {
        StreamWatch x = Talk.opened(0);
        x.rule(0, 0);
        Talk.option(x, "b", 0, 0, 0);
        Talk.option(x, "c", NOT, 0, 0);
        Due.is("b before c", Talk.send(x, 0, 0, 1, ACK, "abcd"), 1);
        Due.is("alert", Talk.alertOf(x, 0), "0 1000 0 2");
        StreamWatch y = Talk.opened(0);
        ruleFor(y, 0, 0, "c");
        ruleFor(y, 0, 0, "a");
        Talk.send(y, 0, 0, 2, ACK, "bcd");
        Due.is("held bytes that follow", Talk.send(y, 0, 0, 1, ACK, "a"), 2);
        Due.is("latest", Talk.alertOf(y, 0), "0 1000 0 3");
        Due.is("first", Talk.alertOf(y, 1), "1 1000 0 1");
    }

    /** "and it has not raised one on that stream before" */
    private static void onceOnAStream() {
        StreamWatch x = Talk.opened(0);
        ruleFor(x, 2, 0, "a");
        Due.is("first", Talk.send(x, 0, 0, 1, ACK, "aaaa"), 1);
        Due.is("again", Talk.send(x, 0, 0, 5, ACK, "aaaa"), 0);
        Talk.option(x, "b", 0, 0, 0);
        Due.is("with another option", Talk.send(x, 0, 0, 9, ACK, "b"), 0);
        ruleFor(x, 2, 0, "b");
        Due.is("another rule", Talk.send(x, 0, 0, 10, ACK, "-"), 1);
        Due.is("alerts", x.alerts(), 2);
    }

    private static void againOnAnotherStream() {
        StreamWatch x = Talk.opened(0);
        ruleFor(x, 2, 0, "a");
        Due.is("stream 0", Talk.send(x, 0, 0, 1, ACK, "a"), 1);
        Due.is("stream 1", Talk.send(x, 0, 1, 1, ACK, "a"), 1);
        Due.is("stream 0 of another flow", Talk.send(x, 1, 0, 1, SYN, "a"), 1);
        Due.is("stream 1 of another flow", Talk.send(x, 1, 1, 1, ACK, "a"), 1);
        Due.is("each again", Talk.send(x, 0, 0, 2, ACK, "a") + Talk.send(x, 0, 1, 2, ACK, "a")
                + Talk.send(x, 1, 0, 3, ACK, "a") + Talk.send(x, 1, 1, 2, ACK, "a"), 0);
        Talk.send(x, 0, 0, 1, Talk.RST, "");
        Due.is("the same ends, a new flow", Talk.send(x, 0, 0, 0, SYN, "a"), 1);
        Due.is("its stream 1", Talk.send(x, 0, 1, 0, ACK, "a"), 1);
        for (int c = 2; c < 6; c++) {
            Due.is("others make it go", Talk.send(x, c, 0, 0, SYN, ""), 0);
        }
        Due.is("once more a new flow", Talk.send(x, 0, 0, 0, SYN, "a"), 1);
    }

    /** "Of several rules the lesser number comes first." */
    private static void lesserNumberFirst() {
        StreamWatch x = Talk.opened(0);
        String[] contents = {"c", "b", "a", "b", "bc", "c"};
        for (String one : contents) {
            ruleFor(x, 0, 0, one);
        }
        Due.is("watch", Talk.send(x, 0, 0, 1, ACK, "abc"), 6);
        int[] rules = {2, 1, 3, 0, 4, 5};
        int[] sizes = {1, 2, 2, 3, 3, 3};
        for (int i = 0; i < 6; i++) {
            Due.is("alert", Talk.alertOf(x, 5 - i), rules[i] + " 1000 0 " + sizes[i]);
        }
    }
}
