/** Terms: the reasons why the wire is no packet or counts for nothing. */
public final class ReasonsTest {
    private static final String SIXTY = "0123456789".repeat(6);

    public static void main(String[] args) {
        fewerThanTwentyBytes();
        byteZero();
        wordsOfTheIpHeader();
        lengthMoreThanTheWire();
        lengthLessThanTheHeaders();
        sumOfTheIpHeader();
        parts();
        protocol();
        wordsOfTheTcpHeader();
        tcpHeaderBeyondLength();
        sumOfTheTcpPart();
        whatIsNotInTheTcpSum();
        withoutFlow();
        theFirstOneCounts();
        higherByteFirst();
        dataUpToLength();
        Due.end();
    }

    private static int watchedFirst(Raw raw, int size) {
        StreamWatch x = new StreamWatch(0);
        raw.putOn(x, size);
        return x.watch();
    }

    /** "1 It has fewer than 20 bytes." */
    private static void fewerThanTwentyBytes() {
        for (int size = 0; size < 20; size++) {
            Due.is(size + " bytes", watchedFirst(Raw.plain(""), size), -2);
        }
        Due.is("20 bytes, LENGTH 40", watchedFirst(Raw.plain(""), 20), -4);
        Due.is("20 bytes, LENGTH 20", watchedFirst(Raw.plain("").setLength(20).sumUp(), 20), -4);
        Due.is("20 bytes, byte 0 wrong", watchedFirst(Raw.plain("").set(0, 68), 20), -3);
    }

    /** "2 Byte 0 is not 69, 70 or 71" */
    private static void byteZero() {
        for (int value = 0; value < 256; value++) {
            if (value < 69 || value > 71) {
                Due.is("byte 0 is " + value, Raw.plain(SIXTY).set(0, value).sumUp().watched(), -3);
            }
        }
    }

    /** "(64 + the number of words of four bytes in the IP HEADER)" */
    private static void wordsOfTheIpHeader() {
        for (int words = 5; words <= 7; words++) {
            StreamWatch x = new StreamWatch(0);
            Due.is("byte 0 is " + (64 + words), new Raw(words, 5, "abc", "").sendTo(x), 0);
            Due.is("client's port", x.flow(0, 1), 1000);
            Due.is("text", Talk.textOf(x, 0, 0), "abc");
        }
    }

    /** "3 Bytes 2, 3, the LENGTH, are more than the wire has" */
    private static void lengthMoreThanTheWire() {
        for (int n = 0; n <= 60; n += 10) {
            Raw raw = Raw.plain(SIXTY.substring(60 - n));
            Due.is("LENGTH is what the wire has", raw.watched(), 0);
            Due.is("LENGTH is one more", raw.setLength(41 + n).sumUp().watched(), -4);
        }
        int[] lengths = {40 + 256, 40 + 32768, 65535};
        for (int length : lengths) {
            Due.is("LENGTH " + length, Raw.plain("").setLength(length).sumUp().watched(), -4);
        }
        for (int size = 20; size < 40; size++) {
            Due.is(size + " bytes of 40", watchedFirst(Raw.plain(""), size), -4);
        }
        Due.is("LENGTH is one less", new Raw(5, 5, "", "x").watched(), 0);
        Due.is("LENGTH is 60 less", new Raw(5, 5, "", SIXTY).watched(), 0);
    }

    /** ", or less than the IP header and 20 bytes more." */
    private static void lengthLessThanTheHeaders() {
        for (int words = 5; words <= 7; words++) {
            int least = 4 * words + 20;
            Due.is("LENGTH " + least, new Raw(words, 5, "", "xyz").watched(), 0);
            for (int length = 0; length < least; length++) {
                Raw raw = new Raw(words, 5, "", "xyz").setLength(length);
                Due.is("LENGTH " + length, raw.sumUpIp().watched(), -4);
            }
        }
    }

    /** "4 The SUM of the IP header is not 65535." */
    private static void sumOfTheIpHeader() {
        for (int words = 5; words <= 7; words++) {
            String data = SIXTY.substring(9);
            Due.is("right sum", new Raw(words, 5, data, "z").watched(), 0);
            for (int k = 1; k < 4 * words; k++) {
                // Byte 2 is left out: LENGTH would be more than the wire has.
                Raw raw = new Raw(words, 5, data, "z").flip(k, k == 2 ? 0 : 1);
                Due.is("byte " + k + " is another", raw.watched(), k == 2 ? 0 : -5);
            }
        }
        Due.is("byte 0 is another", Raw.plain(SIXTY).set(0, 71).watched(), -5);
        Due.is("SUM 65534", Raw.plain("").setTwo(10, 0xA5CE).watched(), -5);
        Due.is("SUM 65535", Raw.plain("").setTwo(10, 0xA5CF).watched(), 0);
        Due.is("SUM 1", Raw.plain("").setTwo(10, 0xA5D0).watched(), -5);
        Due.is("the first byte behind it", Raw.plain("").flipTcp(0, 1).watched(), -9);
    }

    /** "5 Bytes 6, 7, taken & 16383, are not 0." */
    private static void parts() {
        for (int bit = 0; bit < 16; bit++) {
            Raw raw = Raw.plain("abc").setTwo(6, 1 << bit).sumUp();
            Due.is("bytes 6, 7 are " + (1 << bit), raw.watched(), bit < 14 ? -6 : 0);
        }
        Due.is("both highest bits", Raw.plain("abc").setTwo(6, 0xC000).sumUp().watched(), 0);
        Due.is("all others", Raw.plain("abc").setTwo(6, 0x3FFF).sumUp().watched(), -6);
    }

    /** "6 Byte 9 is not 6." */
    private static void protocol() {
        for (int value = 0; value < 256; value++) {
            Raw raw = Raw.plain("abc").set(9, value).sumUp();
            Due.is("byte 9 is " + value, raw.watched(), value == 6 ? 0 : -7);
        }
    }

    /** "7 The upper four bits of byte 12 of what follows the IP header .. are not 5 .. 8" */
    private static void wordsOfTheTcpHeader() {
        for (int ipWords = 5; ipWords <= 7; ipWords++) {
            for (int words = 0; words < 16; words++) {
                int want = words >= 5 && words <= 8 ? 0 : -8;
                Raw raw = new Raw(ipWords, 5, SIXTY.substring(8), "");
                Due.is(words + " words", raw.setTcp(12, 16 * words).sumUp().watched(), want);
                Due.is(words + " words, lower bits set",
                        raw.setTcp(12, 16 * words + 15).sumUp().watched(), want);
            }
        }
    }

    /** ", or the TCP HEADER, that many words of four bytes, goes beyond LENGTH." */
    private static void tcpHeaderBeyondLength() {
        for (int ipWords = 5; ipWords <= 7; ipWords++) {
            for (int words = 5; words <= 8; words++) {
                Raw raw = new Raw(ipWords, words, "", "behind");
                Due.is(words + " words up to LENGTH", raw.watched(), 0);
                for (int less = 1; less <= 4 * words - 20; less++) {
                    raw.setLength(4 * ipWords + 4 * words - less).sumUp();
                    Due.is(words + " words, LENGTH " + less + " less", raw.watched(), -8);
                }
            }
        }
    }

    /** "8 The SUM of bytes 12 .. 19 of the IP header, 6, the number of bytes of the TCP part .." */
    private static void sumOfTheTcpPart() {
        for (int n = 0; n <= 3; n++) {
            String data = "abc".substring(3 - n);
            Due.is("right sum", Raw.plain(data).watched(), 0);
            for (int k = 0; k < 20 + n; k++) {
                Raw raw = Raw.plain(data).flipTcp(k, 1);
                Due.is("byte " + k + " of the TCP part is another", raw.watched(), -9);
            }
            for (int k = 12; k < 20; k++) {
                Raw raw = Raw.plain(data).flip(k, 1).sumUpIp();
                Due.is("byte " + k + " of the IP header is another", raw.watched(), -9);
            }
            Raw longer = new Raw(5, 5, data, "\0").setLength(41 + n).sumUpIp();
            Due.is("the number of bytes is another", longer.watched(), -9);
            Due.is("and the sum is mended", longer.sumUpTcp().watched(), 0);
        }
        Due.is("SUM 65534", Raw.plain("").setTwo(36, 0x9644).watched(), -9);
        Due.is("SUM 65535", Raw.plain("").setTwo(36, 0x9645).watched(), 0);
        Due.is("SUM 1", Raw.plain("").setTwo(36, 0x9646).watched(), -9);
    }

    private static void whatIsNotInTheTcpSum() {
        int[] places = {1, 4, 5, 8, 20, 27};
        for (int k : places) {
            Raw raw = new Raw(7, 5, "abc", "").flip(k, 255).sumUpIp();
            Due.is("byte " + k + " of the IP header is another", raw.watched(), 0);
        }
        for (int n = 0; n <= 3; n++) {
            Raw raw = new Raw(5, 5, "abc".substring(3 - n), "\u00ff\u00ff");
            Due.is("what is behind LENGTH", raw.watched(), 0);
        }
    }

    /** "Any other packet without a flow counts for nothing (reason 9)." */
    private static void withoutFlow() {
        Due.is("ACK", Raw.plain("abc").setTcp(13, Talk.ACK).sumUp().watched(), -10);
        Due.is("ACK, wrong sum", Raw.plain("abc").setTcp(13, Talk.ACK).watched(), -9);
        Due.is("SYN", Raw.plain("abc").watched(), 0);
    }

    /** Reasons 2 to 9 written into a packet, sums last so that only those asked for are wrong. */
    private static Raw spoilt(boolean[] there) {
        Raw raw = Raw.plain("abc");
        if (there[9]) {
            raw.setTcp(13, Talk.ACK);
        }
        if (there[7]) {
            raw.setTcp(12, 0x40);
        }
        if (there[6]) {
            raw.set(9, 17);
        }
        if (there[5]) {
            raw.set(7, 1);
        }
        if (there[3]) {
            raw.setLength(44);
        }
        if (there[2]) {
            raw.set(0, 68);
        }
        raw.sumUp();
        if (there[8]) {
            raw.flip(37, 1);
        }
        if (there[4]) {
            raw.flip(11, 1);
        }
        return raw;
    }

    /** "the first one that is there, counted from 1, is why it is not" */
    private static void theFirstOneCounts() {
        for (int set = 0; set < 512; set++) {
            boolean[] there = new boolean[10];
            int first = 0;
            for (int reason = 9; reason >= 1; reason--) {
                there[reason] = (set >> (reason - 1) & 1) != 0;
                first = there[reason] ? reason : first;
            }
            int got = watchedFirst(spoilt(there), there[1] ? 19 : 43);
            Due.is("reasons of the set " + set, got, first == 0 ? 0 : -1 - first);
        }
    }

    /** "(Numbers of more bytes than one have the higher byte first.)" */
    private static void higherByteFirst() {
        StreamWatch x = new StreamWatch(0);
        Raw raw = Raw.plain("").setTwo(12, 0x8182).setTwo(14, 0x8384).setTwo(16, 0xF1F2);
        raw.setTwo(18, 0xF3F4).setTwo(20, 0xFEDC).setTwo(22, 0xBA98).setSequence(0x91929394);
        Due.is("watch", raw.sumUp().sendTo(x), 0);
        Due.is("client's host", x.flow(0, 0), 0x81828384);
        Due.is("client's port", x.flow(0, 1), 0xFEDC);
        Due.is("server's host", x.flow(0, 2), 0xF1F2F3F4);
        Due.is("server's port", x.flow(0, 3), 0xBA98);
        Due.is("NEXT", x.stream(0, 0, 1), 0x91929395);
    }

    /** "What is behind the TCP header up to LENGTH are its DATA." */
    private static void dataUpToLength() {
        for (int words = 5; words <= 8; words++) {
            for (int n = 0; n <= 9; n++) {
                StreamWatch x = new StreamWatch(0);
                String data = "abcdefghi".substring(9 - n);
                Due.is("watch", new Raw(6, words, data, "XYZ").sendTo(x), 0);
                Due.is("text", Talk.textOf(x, 0, 0), data);
            }
        }
    }
}
