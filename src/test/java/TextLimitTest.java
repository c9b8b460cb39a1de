/** Terms: a TEXT of at most 80 bytes. */
public final class TextLimitTest {
    private static final int ACK = Talk.ACK;

    public static void main(String[] args) {
        for (int way = 0; way < 2; way++) {
            upToEighty(way);
            overTheLimitInOnePacket(way);
            heldBytesOverTheLimit(way);
            rulesAreNotLookedAt(way);
        }
        otherStreamsAreNotFull();
        Due.end();
    }

    /** A watch whose stream has a text of so many bytes, and NEXT one more than that. */
    private static StreamWatch filled(int way, int size) {
        StreamWatch x = Talk.opened(0);
        for (int i = 0; i < size; i += 8) {
            Talk.send(x, 0, way, 1 + i, ACK, "abcdefgh".substring(0, Math.min(8, size - i)));
        }
        Due.is("filled", x.stream(0, way, 0), size);
        return x;
    }

    /** "it comes to the end of the TEXT (or is lost if that has 80) and NEXT grows by 1" */
    private static void upToEighty(int way) {
        StreamWatch x = filled(way, 79);
        Due.is("text(.., 79) of 79", x.text(0, way, 79), -1);
        Talk.send(x, 0, way, 80, ACK, "Y");
        Due.is("80", Talk.streamOf(x, 0, way), "80 81 0 0");
        Due.is("text(.., 79)", x.text(0, way, 79), 'Y');
        Due.is("text(.., 80)", x.text(0, way, 80), -1);
        Talk.send(x, 0, way, 81, ACK, "Z");
        Due.is("81", Talk.streamOf(x, 0, way), "80 82 0 0");
        Due.is("text(.., 79)", x.text(0, way, 79), 'Y');
        Due.is("text(.., 80)", x.text(0, way, 80), -1);
        Due.is("text(.., 0)", x.text(0, way, 0), 'a');
    }

    private static void overTheLimitInOnePacket(int way) {
        StreamWatch x = filled(way, 77);
        Talk.send(x, 0, way, 78, ACK, "12345678");
        Due.is("over the limit", Talk.streamOf(x, 0, way), "80 86 0 0");
        Due.is("text(.., 79)", x.text(0, way, 79), '3');
        Talk.send(x, 0, way, 78, ACK, "12345678");
        Due.is("before NEXT", Talk.streamOf(x, 0, way), "80 86 0 0");
    }

    private static void heldBytesOverTheLimit(int way) {
        StreamWatch x = filled(way, 80);
        Talk.send(x, 0, way, 83, ACK, "cd");
        Due.is("held behind a full text", Talk.streamOf(x, 0, way), "80 81 2 0");
        Talk.send(x, 0, way, 81 + 31, ACK, "zz");
        Due.is("up to NEXT + 31", Talk.streamOf(x, 0, way), "80 81 3 0");
        Talk.send(x, 0, way, 81, ACK, "ab");
        Due.is("gone through", Talk.streamOf(x, 0, way), "80 85 1 0");
    }

    /** "and all RULES are looked at (if it came to the TEXT)" */
    private static void rulesAreNotLookedAt(int way) {
        StreamWatch x = filled(way, 79);
        x.rule(2, 0);
        Talk.option(x, "h", 0, 0, 0);
        Due.is("the 80th", Talk.send(x, 0, way, 80, ACK, "!?"), 1);
        Due.is("alert", Talk.alertOf(x, 0), "0 1000 " + way + " 80");
        x.rule(2, 0);
        Talk.option(x, "g", 0, 0, 0);
        x.rule(2, 0);
        Talk.option(x, "?", 0, 0, 0);
        x.rule(2, 0);
        Talk.option(x, "~", 2, 0, 0);
        Due.is("the 82nd", Talk.send(x, 0, way, 82, ACK, "?"), 0);
        Due.is("alerts", x.alerts(), 1);
    }

    private static void otherStreamsAreNotFull() {
        StreamWatch x = filled(0, 80);
        Talk.send(x, 0, 1, 1, ACK, "b");
        Due.is("stream 1", Talk.textOf(x, 0, 1), "b");
        Talk.send(x, 1, 0, 1, Talk.SYN, "c");
        Due.is("another flow", Talk.textOf(x, 1, 0), "c");
        Talk.send(x, 0, 0, 1, Talk.RST, "");
        Talk.send(x, 0, 0, 1, Talk.SYN, "d");
        Due.is("a new flow in its place", Talk.textOf(x, 0, 0), "d");
    }
}
