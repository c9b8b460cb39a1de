/** Promise 7: wire. */
public final class Promise07Test {
    public static void main(String[] args) {
        StreamWatch x = new StreamWatch(0);
        Due.is("wire(-1)", x.wire(-1), 0);
        Due.is("wire(0)", x.wire(0), -1);
        x.put(2, 0x00FF);
        Due.is("wire(-1)", x.wire(-1), 2);
        Due.is("wire(0)", x.wire(0), 0);
        Due.is("wire(1)", x.wire(1), 255);
        Due.is("wire(2)", x.wire(2), -1);
        Due.is("wire(-2)", x.wire(-2), -1);
        Due.is("wire(MIN)", x.wire(Integer.MIN_VALUE), -1);
        Due.is("wire(MAX)", x.wire(Integer.MAX_VALUE), -1);
        x.craft(0, 0, 0, 2, 8, 0);
        Due.is("wire(-1)", x.wire(-1), 48);
        x.watch();
        Due.is("wire(-1) after watch", x.wire(-1), 48);
        x.craft(0, 0, 0, 2, 0, 0);
        Due.is("wire(40) of a shorter one", x.wire(40), -1);
        aHundred();
        everyByte();
        Due.end();
    }

    private static void aHundred() {
        StreamWatch x = new StreamWatch(0);
        for (int k = 0; k < 100; k++) {
            x.put(1, k + 100);
        }
        Due.is("wire(-1)", x.wire(-1), 100);
        for (int k = 0; k < 100; k++) {
            Due.is("wire(" + k + ")", x.wire(k), k + 100);
        }
        Due.is("wire(100)", x.wire(100), -1);
        Due.is("wire(-2)", x.wire(-2), -1);
    }

    /** "a row of at most 100 bytes 0 .. 255" */
    private static void everyByte() {
        for (int value = 0; value < 256; value++) {
            StreamWatch x = new StreamWatch(0);
            x.put(1, value);
            Due.is("wire(0)", x.wire(0), value);
            x.alter(0, 255);
            Due.is("wire(0) altered", x.wire(0), 255 - value);
        }
    }
}
