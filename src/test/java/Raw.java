/**
 * A packet of client 0 written byte by byte, with sums of its own reckoning, so that each byte of it
 * can be wrong alone.
 */
final class Raw {
    private final int tcp;
    private final int[] bytes;

    /** A right SYN packet, sequence number 100; what is behind stands behind LENGTH. */
    Raw(int ipWords, int tcpWords, String data, String behind) {
        tcp = 4 * ipWords;
        int length = 4 * ipWords + 4 * tcpWords + data.length();
        bytes = new int[length + behind.length()];
        set(0, 64 + ipWords);
        setTwo(2, length);
        set(9, 6);
        setTwo(12, 0x0A00).setTwo(14, 0x0001).setTwo(16, 0x0A00).setTwo(18, 0x0101);
        setTwo(tcp, 1000).setTwo(tcp + 2, 80);
        set(tcp + 7, 100);
        set(tcp + 12, 16 * tcpWords);
        set(tcp + 13, Talk.SYN);
        for (int i = 0; i < data.length(); i++) {
            set(length - data.length() + i, data.charAt(i));
        }
        for (int i = 0; i < behind.length(); i++) {
            set(length + i, behind.charAt(i));
        }
        sumUp();
    }

    static Raw plain(String data) {
        return new Raw(5, 5, data, "");
    }

    int size() {
        return bytes.length;
    }

    Raw set(int k, int value) {
        bytes[k] = value;
        return this;
    }

    Raw setTwo(int k, int number) {
        return set(k, number / 256).set(k + 1, number % 256);
    }

    /** Byte k of the TCP part. */
    Raw setTcp(int k, int value) {
        return set(tcp + k, value);
    }

    Raw flip(int k, int bits) {
        return set(k, bytes[k] ^ bits);
    }

    Raw flipTcp(int k, int bits) {
        return flip(tcp + k, bits);
    }

    Raw setLength(int length) {
        return setTwo(2, length);
    }

    Raw setSequence(int sequence) {
        return setTwo(tcp + 4, sequence >>> 16).setTwo(tcp + 6, sequence & 65535);
    }

    /** Makes both sums right for the LENGTH that is written, whatever else is wrong. */
    Raw sumUp() {
        return sumUpIp().sumUpTcp();
    }

    Raw sumUpIp() {
        setTwo(10, 0);
        return setTwo(10, 65535 - folded(total(0, tcp)));
    }

    Raw sumUpTcp() {
        int end = Math.min(bytes[2] * 256 + bytes[3], bytes.length);
        setTwo(tcp + 16, 0);
        return setTwo(tcp + 16, 65535 - folded(total(12, 20) + 6 + end - tcp + total(tcp, end)));
    }

    private long total(int from, int end) {
        long total = 0;
        for (int k = from; k < end; k++) {
            total += (k - from) % 2 == 0 ? bytes[k] * 256 : bytes[k];
        }
        return total;
    }

    /** Adding what is above 16 bits to the rest leaves what 65535 leaves, but never 0. */
    private static int folded(long total) {
        long rest = total % 65535;
        return rest == 0 && total != 0 ? 65535 : (int) rest;
    }

    /** Puts the first size bytes on the wire, which has nothing else then. */
    void putOn(StreamWatch x, int size) {
        x.wipe();
        for (int k = 0; k < size; k++) {
            Due.is("put", x.put(1, bytes[k]), true);
        }
    }

    void putOn(StreamWatch x) {
        putOn(x, bytes.length);
    }

    int sendTo(StreamWatch x) {
        putOn(x);
        return x.watch();
    }

    /** What a new watch answers to it. */
    int watched() {
        return sendTo(new StreamWatch(0));
    }
}
