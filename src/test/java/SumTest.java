/**
 * Terms: the SUM of bytes, on the wire by craft and seal, and as watch takes it. The packet of
 * craft(0, 0, 100, 2, 0, 0) has 0x5A30 in its IP header and 0x69BA for its TCP part, without the
 * bytes that make the SUMs right.
 */
public final class SumTest {
    public static void main(String[] args) {
        asItIs();
        lastByteAlone();
        aboveTheLargestInTheIpHeader();
        aboveTheLargestInTheTcpPart();
        manyTimesAbove();
        zeroHasTwoForms();
        Due.end();
    }

    private static int twoAt(StreamWatch x, int k) {
        return x.wire(k) * 256 + x.wire(k + 1);
    }

    private static StreamWatch crafted(int n, long data) {
        StreamWatch x = new StreamWatch(0);
        x.craft(0, 0, 100, Talk.SYN, n, data);
        return x;
    }

    private static void alterTwo(StreamWatch x, int k, int bits) {
        x.alter(k, bits >> 8);
        x.alter(k + 1, bits);
    }

    private static void isSealed(String what, StreamWatch x, int k, int want) {
        Due.is(what + ": seal", x.seal(), true);
        Due.is(what, twoAt(x, k), want);
        Due.is(what + ": watch", x.watch(), 0);
    }

    private static void asItIs() {
        StreamWatch x = crafted(0, 0);
        Due.is("IP header", twoAt(x, 10), 0xFFFF - 0x5A30);
        Due.is("TCP part", twoAt(x, 36), 0xFFFF - 0x69BA);
    }

    /** "(a last one alone with a 0 behind it)" */
    private static void lastByteAlone() {
        Due.is("61", twoAt(crafted(1, 0x61), 36), 0xFFFF - (0x69BA + 1 + 0x6100));
        Due.is("61 00", twoAt(crafted(2, 0x6100), 36), 0xFFFF - (0x69BA + 2 + 0x6100));
        Due.is("00 61", twoAt(crafted(2, 0x0061), 36), 0xFFFF - (0x69BA + 2 + 0x0061));
        Due.is("01 02 03", twoAt(crafted(3, 0x010203), 36), 0xFFFF - (0x69BA + 3 + 0x0102 + 0x0300));
        StreamWatch x = crafted(1, 0x61);
        x.put(1, 0xFF);
        x.alter(36, 255);
        isSealed("61, and what is behind LENGTH", x, 36, 0xFFFF - (0x69BA + 1 + 0x6100));
    }

    private static void ipIs(int number, int timeToLive, int want) {
        StreamWatch x = crafted(0, 0);
        alterTwo(x, 4, number);
        x.alter(8, timeToLive);
        isSealed("IP header with " + number + " and " + timeToLive, x, 10, want);
    }

    /** "as long as that is above 65535, its lowest 16 bits and what is above them are added" */
    private static void aboveTheLargestInTheIpHeader() {
        ipIs(0xFFFE - 0x5A30, 0, 1);
        ipIs(0xFFFF - 0x5A30, 0, 0);
        ipIs(0x10000 - 0x5A30, 0, 0xFFFF - 1);
        ipIs(0x10001 - 0x5A30, 0, 0xFFFF - 2);
        ipIs(0x1FFFD - 0x5A30 - 0xFF00, 255, 1);
        ipIs(0x1FFFE - 0x5A30 - 0xFF00, 255, 0);
        ipIs(0x1FFFF - 0x5A30 - 0xFF00, 255, 0xFFFF - 1);
        ipIs(0x20000 - 0x5A30 - 0xFF00, 255, 0xFFFF - 2);
    }

    private static void tcpIs(int window, int urgent, int want) {
        StreamWatch x = crafted(0, 0);
        alterTwo(x, 34, window);
        alterTwo(x, 38, urgent);
        isSealed("TCP part with " + window + " and " + urgent, x, 36, want);
    }

    private static void aboveTheLargestInTheTcpPart() {
        tcpIs(0xFFFE - 0x69BA, 0, 1);
        tcpIs(0xFFFF - 0x69BA, 0, 0);
        tcpIs(0x10000 - 0x69BA, 0, 0xFFFF - 1);
        tcpIs(0x10001 - 0x69BA, 0, 0xFFFF - 2);
        tcpIs(0x1FFFD - 0x69BA - 0xFFFF, 0xFFFF, 1);
        tcpIs(0x1FFFE - 0x69BA - 0xFFFF, 0xFFFF, 0);
        tcpIs(0x1FFFF - 0x69BA - 0xFFFF, 0xFFFF, 0xFFFF - 1);
        tcpIs(0x20000 - 0x69BA - 0xFFFF, 0xFFFF, 0xFFFF - 2);
    }

    /** Each FFFF adds nothing once what is above 16 bits is added again. */
    private static void manyTimesAbove() {
        StreamWatch x = new StreamWatch(0);
        Raw.plain("\u00ff".repeat(60)).putOn(x);
        isSealed("60 bytes of 255", x, 36, 0xFFFF - (0x69BA + 60));
        Raw.plain("\u00ff".repeat(59)).putOn(x);
        isSealed("59 bytes of 255", x, 36, 0x1FFFE - (0x69BA + 59 + 0xFF00));
    }

    private static void zeroHasTwoForms() {
        StreamWatch x = crafted(0, 0);
        alterTwo(x, 4, 0xFFFF - 0x5A30);
        alterTwo(x, 34, 0xFFFF - 0x69BA);
        Due.is("seal", x.seal(), true);
        Due.is("bytes 10, 11", twoAt(x, 10), 0);
        Due.is("bytes 36, 37", twoAt(x, 36), 0);
        Due.is("watch", x.watch(), 0);
        alterTwo(x, 10, 0xFFFF);
        alterTwo(x, 36, 0xFFFF);
        Due.is("65535 twice makes 65535, too", x.watch(), 0);
        Due.is("seal", x.seal(), true);
        Due.is("bytes 10, 11 again", twoAt(x, 10), 0);
        Due.is("bytes 36, 37 again", twoAt(x, 36), 0);
    }
}
