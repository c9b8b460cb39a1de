/** Promise 6: seal. */
public final class Promise06Test {
    public static void main(String[] args) {
        makesSumsRight();
        makesLongHeadersRight();
        takesAnOddLastByteWithAZero();
        refuses();
        refusesWhatIsTooShort();
        leavesTheRest();
        sumThatIsFull();
        Due.end();
    }

    private static void makesSumsRight() {
        StreamWatch x = new StreamWatch(0);
        x.craft(0, 0, 100, 2, 0, 0);
        String whole = Talk.wireOf(x);
        for (int k : new int[] {10, 11, 36, 37}) {
            x.alter(k, 0x5A);
        }
        Due.is("watch()", x.watch(), -5);
        Due.is("seal()", x.seal(), true);
        Due.is("wire", Talk.wireOf(x), whole);
        x.alter(36, 1);
        Due.is("watch()", x.watch(), -9);
        Due.is("seal()", x.seal(), true);
        Due.is("wire", Talk.wireOf(x), whole);
        Due.is("seal() of a right one", x.seal(), true);
        Due.is("wire", Talk.wireOf(x), whole);
        Due.is("watch()", x.watch(), 0);
    }

    private static void makesLongHeadersRight() {
        for (int ipWords = 5; ipWords <= 7; ipWords++) {
            for (int tcpWords = 5; tcpWords <= 8; tcpWords++) {
                StreamWatch x = new StreamWatch(0);
                Raw raw = new Raw(ipWords, tcpWords, "abc", "");
                raw.setTwo(10, 0).setTcp(16, 0).setTcp(17, 0).putOn(x);
                Due.is("watch()", x.watch(), -5);
                Due.is("seal()", x.seal(), true);
                Due.is("watch()", x.watch(), 0);
                Due.is("text", Talk.textOf(x, 0, 0), "abc");
            }
        }
    }

    private static void takesAnOddLastByteWithAZero() {
        StreamWatch x = new StreamWatch(0);
        x.craft(0, 0, 100, 2, 1, 0x61);
        String whole = Talk.wireOf(x);
        x.put(1, 0x62);
        x.alter(37, 1);
        Due.is("seal()", x.seal(), true);
        Due.is("wire", Talk.wireOf(x), whole + " 98");
    }

    private static void refused(String why, StreamWatch x) {
        String before = Talk.wireOf(x);
        Due.is("seal: " + why, x.seal(), false);
        Due.is("wire after that", Talk.wireOf(x), before);
    }

    private static StreamWatch altered(int k, int bits) {
        StreamWatch x = new StreamWatch(0);
        x.craft(0, 0, 100, 2, 8, -1);
        x.alter(10, 1);
        x.alter(36, 1);
        x.alter(k, bits);
        return x;
    }

    private static void refuses() {
        refused("empty", new StreamWatch(0));
        refused("byte 0 is 68", altered(0, 69 ^ 68));
        refused("byte 0 is 72", altered(0, 69 ^ 72));
        refused("LENGTH is more than the wire", altered(3, 48 ^ 49));
        refused("LENGTH is less than 40", altered(3, 48 ^ 39));
        refused("a part", altered(6, 32));
        refused("a later part", altered(7, 1));
        refused("no TCP", altered(9, 1));
        refused("TCP header of 4 words", altered(32, 0x50 ^ 0x40));
        refused("TCP header of 9 words", altered(32, 0x50 ^ 0x90));
        refused("TCP header beyond LENGTH", altered(32, 0x50 ^ 0x80));
        StreamWatch x = new StreamWatch(0);
        Raw.plain("0123456789".repeat(6)).putOn(x);
        x.alter(32, 0x50 ^ 0x90);
        refused("TCP header of 9 words that is there", x);
        x.alter(32, 0x90 ^ 0xF0);
        refused("TCP header of 15 words that is there", x);
        x.alter(32, 0xF0 ^ 0x80);
        Due.is("seal: TCP header of 8 words", x.seal(), true);
        Due.is("seal: TCP header up to LENGTH", altered(32, 0x50 ^ 0x70).seal(), true);
        Due.is("seal: LENGTH is 40", altered(3, 48 ^ 40).seal(), true);
        Due.is("seal: not to be parted", altered(6, 0xC0).seal(), true);
    }

    private static void refusesWhatIsTooShort() {
        for (int size = 0; size < 40; size++) {
            StreamWatch x = new StreamWatch(0);
            Raw.plain("").set(10, 1).putOn(x, size);
            refused(size + " bytes", x);
        }
        for (int ipWords = 5; ipWords <= 7; ipWords++) {
            int least = 4 * ipWords + 20;
            StreamWatch x = new StreamWatch(0);
            new Raw(ipWords, 5, "", "xyz").set(10, 1).setLength(least - 1).putOn(x);
            refused("LENGTH " + (least - 1), x);
            x.alter(3, least - 1 ^ least);
            Due.is("seal: LENGTH " + least, x.seal(), true);
            Due.is("watch()", x.watch(), 0);
        }
    }

    /** Of a wire of 100 bytes, those of the SUMs alone become others. */
    private static void leavesTheRest() {
        StreamWatch x = new StreamWatch(0);
        new Raw(7, 8, "0123456789", "behind").setTcp(13, 0).flip(10, 255).putOn(x);
        x.alter(11, 255);
        x.alter(28 + 16, 255);
        x.alter(28 + 17, 255);
        String[] before = Talk.wireOf(x).split(" ");
        Due.is("seal()", x.seal(), true);
        String[] after = Talk.wireOf(x).split(" ");
        Due.is("bytes of the wire", after.length, before.length);
        for (int k = 0; k < before.length; k++) {
            boolean ofTheSums = k == 10 || k == 11 || k == 44 || k == 45;
            Due.is("byte " + k + " stays", after[k].equals(before[k]), !ofTheSums);
        }
        Due.is("watch()", x.watch(), -10);
    }

    /** The rest of the header adds up to 65535 already, so that the bytes become 0. */
    private static void sumThatIsFull() {
        StreamWatch x = new StreamWatch(0);
        x.craft(0, 0, 100, 2, 0, 0);
        x.alter(4, 165);
        x.alter(5, 207);
        x.alter(34, 150);
        x.alter(35, 69);
        Due.is("seal()", x.seal(), true);
        Due.is("wire(10)", x.wire(10), 0);
        Due.is("wire(11)", x.wire(11), 0);
        Due.is("wire(36)", x.wire(36), 0);
        Due.is("wire(37)", x.wire(37), 0);
        Due.is("watch()", x.watch(), 0);
        x.alter(10, 255);
        x.alter(11, 255);
        Due.is("watch with the other zero", x.watch(), 0);
    }
}
