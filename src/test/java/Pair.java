/** A StreamWatch and a PlainWatch that get the same calls and must answer them alike. */
final class Pair {
    /** Behind these calls the document promises nothing. */
    private static final int LIMIT = 512;

    private final StreamWatch x;
    private final PlainWatch y;
    private final String name;
    private int calls = 0;

    Pair(String name, int last) {
        this.name = name;
        x = new StreamWatch(last);
        y = new PlainWatch(last);
    }

    /** What the plain one knows, which costs no call. */
    PlainWatch plain() {
        return y;
    }

    /** How many calls are left. */
    int left() {
        return LIMIT - calls;
    }

    private boolean isLeft() {
        calls++;
        return calls <= LIMIT;
    }

    private void compare(String what, Due.Call one, Due.Call other) {
        if (isLeft()) {
            Due.is(name + what, Due.caught(one), Due.caught(other));
        }
    }

    void craft(int c, int way, int sequence, int flags, int n, long data) {
        compare("craft", () -> x.craft(c, way, sequence, flags, n, data),
                () -> y.craft(c, way, sequence, flags, n, data));
    }

    void alter(int k, int bits) {
        compare("alter", () -> x.alter(k, bits) ? 1 : 0, () -> y.alter(k, bits) ? 1 : 0);
    }

    void wipe() {
        if (isLeft()) {
            x.wipe();
            y.wipe();
        }
    }

    void put(int n, long bytes) {
        compare("put", () -> x.put(n, bytes) ? 1 : 0, () -> y.put(n, bytes) ? 1 : 0);
    }

    void seal() {
        compare("seal", () -> x.seal() ? 1 : 0, () -> y.seal() ? 1 : 0);
    }

    void wire(int k) {
        compare("wire", () -> x.wire(k), () -> y.wire(k));
    }

    void watch() {
        compare("watch", x::watch, y::watch);
    }

    void rule(int way, int port) {
        compare("rule", () -> x.rule(way, port), () -> y.rule(way, port));
    }

    void option(int n, long bytes, int marks, int least, int span) {
        compare("option", () -> x.option(n, bytes, marks, least, span),
                () -> y.option(n, bytes, marks, least, span));
    }

    void flow(int f, int w) {
        compare("flow", () -> x.flow(f, w), () -> y.flow(f, w));
    }

    void stream(int f, int way, int w) {
        compare("stream", () -> x.stream(f, way, w), () -> y.stream(f, way, w));
    }

    void text(int f, int way, int k) {
        compare("text", () -> x.text(f, way, k), () -> y.text(f, way, k));
    }

    void alerts() {
        compare("alerts", x::alerts, y::alerts);
    }

    void alert(int k, int w) {
        compare("alert", () -> x.alert(k, w), () -> y.alert(k, w));
    }
}
