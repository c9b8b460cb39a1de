/** Promise 5: put. */
public final class Promise05Test {
    public static void main(String[] args) {
        StreamWatch x = new StreamWatch(0);
        Due.is("put(1, 0x1FF)", x.put(1, 0x1FF), true);
        Due.is("put(3, 0x99010203)", x.put(3, 0x99010203L), true);
        Due.is("wire", Talk.wireOf(x), "255 1 2 3");
        Due.is("put(8, ..)", x.put(8, 0xFEDCBA9876543210L), true);
        Due.is("wire", Talk.wireOf(x), "255 1 2 3 254 220 186 152 118 84 50 16");
        int[] wrong = {0, -1, 9, Integer.MIN_VALUE, Integer.MAX_VALUE};
        for (int n : wrong) {
            Due.is("put(" + n + ", 1)", x.put(n, 1), false);
        }
        Due.is("wire(-1)", x.wire(-1), 12);
        everyNumberOfBytes();
        upToAHundred();
        behindACraft();
        Due.end();
    }

    private static StreamWatch withZeros(int size) {
        StreamWatch x = new StreamWatch(0);
        for (int i = 0; i < size; i++) {
            x.put(1, 0);
        }
        return x;
    }

    /** "false if n is not 1 .. 8 or there would be more than 100" */
    private static void everyNumberOfBytes() {
        for (int n = 1; n <= 8; n++) {
            StreamWatch x = withZeros(100 - n);
            Due.is("put(" + n + ", ..) up to 100", x.put(n, 0xA1A2A3A4A5A6A7A8L), true);
            Due.is("wire(-1)", x.wire(-1), 100);
            Due.is("the highest first", x.wire(100 - n), 0xA9 - n);
            Due.is("the lowest last", x.wire(99), 0xA8);
            StreamWatch y = withZeros(101 - n);
            Due.is("put(" + n + ", ..) up to 101", y.put(n, -1L), false);
            Due.is("wire(-1)", y.wire(-1), 101 - n);
            Due.is("nothing is added", y.wire(101 - n), -1);
            Due.is("the last is as it was", y.wire(100 - n), 0);
        }
        Due.is("put(0, ..) on a full wire", withZeros(100).put(0, 0), false);
        Due.is("put(-1, ..) on a full wire", withZeros(100).put(-1, 0), false);
    }

    private static void upToAHundred() {
        StreamWatch x = new StreamWatch(0);
        for (int i = 0; i < 12; i++) {
            Due.is("put", x.put(8, i), true);
        }
        Due.is("put(5, 1) behind 96", x.put(5, 1), false);
        Due.is("wire(-1)", x.wire(-1), 96);
        Due.is("wire(96)", x.wire(96), -1);
        Due.is("put(4, ..) behind 96", x.put(4, 0x0A0B0C0D), true);
        Due.is("wire(-1)", x.wire(-1), 100);
        Due.is("wire(99)", x.wire(99), 13);
        Due.is("put(1, 1) behind 100", x.put(1, 1), false);
        Due.is("wire(-1)", x.wire(-1), 100);
    }

    private static void behindACraft() {
        StreamWatch x = new StreamWatch(0);
        x.craft(0, 0, 0, 2, 1, 7);
        Due.is("put", x.put(2, 0x0809), true);
        Due.is("wire(40)", x.wire(40), 7);
        Due.is("wire(41)", x.wire(41), 8);
        Due.is("wire(-1)", x.wire(-1), 43);
        Due.is("watch: what is behind LENGTH is not looked at", x.watch(), 0);
        Due.is("text", x.stream(0, 0, 0), 1);
    }
}
