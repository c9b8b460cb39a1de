/** Promise 3: alter. */
public final class Promise03Test {
    public static void main(String[] args) {
        StreamWatch x = new StreamWatch(0);
        Due.is("alter on an empty wire", x.alter(0, 1), false);
        x.put(3, 0x01F0FF);
        Due.is("alter(0, 3)", x.alter(0, 3), true);
        Due.is("wire", Talk.wireOf(x), "2 240 255");
        Due.is("alter(2, -1)", x.alter(2, -1), true);
        Due.is("wire", Talk.wireOf(x), "2 240 0");
        Due.is("alter(1, 256 + 15)", x.alter(1, 256 + 15), true);
        Due.is("wire", Talk.wireOf(x), "2 255 0");
        Due.is("alter(1, 0)", x.alter(1, 0), true);
        Due.is("alter(3, 1)", x.alter(3, 1), false);
        Due.is("alter(-1, 1)", x.alter(-1, 1), false);
        Due.is("alter(MIN, 1)", x.alter(Integer.MIN_VALUE, 1), false);
        Due.is("alter(MAX, 1)", x.alter(Integer.MAX_VALUE, 1), false);
        Due.is("wire", Talk.wireOf(x), "2 255 0");
        lastOfAHundred();
        behindTheEnd();
        Due.end();
    }

    private static void lastOfAHundred() {
        StreamWatch x = new StreamWatch(0);
        for (int i = 0; i < 25; i++) {
            x.put(4, 0);
        }
        Due.is("alter(99, 7)", x.alter(99, 7), true);
        Due.is("wire(99)", x.wire(99), 7);
        Due.is("alter(100, 7)", x.alter(100, 7), false);
    }

    private static void behindTheEnd() {
        StreamWatch x = new StreamWatch(0);
        x.put(2, 0x0101);
        x.wipe();
        x.put(1, 5);
        Due.is("alter of a wiped byte", x.alter(1, 1), false);
    }
}
