import java.util.Random;

/** Promises 1 to 15: random runs of calls, compared with a second, plain writing of the document. */
public final class PlainWatchTest {
    private static final int RUNS = 3000;
    private static final int CALLS = 512;
    private static final String LETTERS = "aAbBz@[`{";

    private final Random random;
    private final StreamWatch x;
    private final PlainWatch y;
    private final int base;
    private final String run;

    private PlainWatchTest(int seed) {
        random = new Random(seed);
        int last = random.nextInt(3) - 1;
        x = new StreamWatch(last);
        y = new PlainWatch(last);
        int[] bases = {0, 100, -20, Integer.MAX_VALUE - 20, random.nextInt()};
        base = bases[random.nextInt(bases.length)];
        run = "run " + seed + ": ";
    }

    public static void main(String[] args) {
        for (int seed = 0; seed < RUNS; seed++) {
            new PlainWatchTest(seed).go();
        }
        Due.end();
    }

    private void go() {
        int calls = 0;
        int early = random.nextInt(30);
        while (calls < CALLS) {
            calls += calls < early ? ruleOrOption() : oneStep();
        }
        compareAll();
    }

    private int oneStep() {
        int kind = random.nextInt(100);
        if (kind < 60) {
            return packet();
        }
        if (kind < 70) {
            return spoiltPacket();
        }
        if (kind < 76) {
            return longPacket();
        }
        if (kind < 80) {
            return ruleOrOption();
        }
        if (kind < 84) {
            return wireCalls();
        }
        return ask();
    }

    private long content(int n) {
        long number = random.nextInt(4) == 0 ? random.nextLong() : 0;
        for (int i = 0; i < n; i++) {
            number = number << 8 | LETTERS.charAt(random.nextInt(LETTERS.length()));
        }
        return number;
    }

    private int near(int low, int high) {
        return low - 1 + random.nextInt(high - low + 3);
    }

    private static int caught(Due.Call call) {
        try {
            return call.run();
        } catch (IllegalArgumentException e) {
            return -1001;
        } catch (IllegalStateException e) {
            return -1002;
        }
    }

    private int ruleOrOption() {
        if (random.nextInt(3) == 0) {
            int way = random.nextInt(20) == 0 ? near(0, 2) : random.nextInt(3);
            int[] ports = {0, 0, 80, 80, 1000, 65535, 65536, -1};
            int port = ports[random.nextInt(ports.length)];
            Due.is(run + "rule", caught(() -> x.rule(way, port)), caught(() -> y.rule(way, port)));
            return 1;
        }
        int n = random.nextInt(15) == 0 ? near(1, 6) : 1 + random.nextInt(2);
        long bytes = content(n);
        int marks = random.nextInt(30) == 0 ? near(0, 7) : random.nextInt(8);
        int least = random.nextInt(8) == 0 ? near(-80, 80) : random.nextInt(9) - 4;
        int span = random.nextInt(8) == 0 ? near(0, 80) : random.nextInt(8);
        Due.is(run + "option", caught(() -> x.option(n, bytes, marks, least, span)),
                caught(() -> y.option(n, bytes, marks, least, span)));
        return 1;
    }

    private int flags() {
        int[] usual = {16, 16, 16, 16, 16, 0, 2, 2, 18, 3, 17, 17, 1, 4, 6, 20};
        return random.nextInt(20) == 0 ? random.nextInt() : usual[random.nextInt(usual.length)];
    }

    private int sequence() {
        return random.nextInt(30) == 0 ? random.nextInt() : base + random.nextInt(70) - 5;
    }

    /** Mostly where the stream goes on, so that texts grow long. */
    private int sequenceFor(int c, int way) {
        for (int f = 0; f < 4; f++) {
            if (x.flow(f, 1) == 1000 + c && random.nextInt(3) != 0) {
                return x.stream(f, way, 1) + (random.nextInt(2) == 0 ? 0 : random.nextInt(5) - 2);
            }
        }
        return sequence();
    }

    private void craftBoth() {
        int c = random.nextInt(40) == 0 ? near(0, 7) : random.nextInt(random.nextInt(4) == 0 ? 8 : 3);
        int way = random.nextInt(40) == 0 ? near(0, 1) : random.nextInt(3) / 2;
        int n = random.nextInt(40) == 0 ? near(0, 8) : random.nextInt(9);
        int sequence = sequenceFor(c, way);
        int flags = flags();
        long data = content(n);
        Due.is(run + "craft", caught(() -> x.craft(c, way, sequence, flags, n, data)),
                caught(() -> y.craft(c, way, sequence, flags, n, data)));
    }

    private int packet() {
        craftBoth();
        watchBoth();
        if (random.nextInt(10) == 0) {
            watchBoth();
            return 3;
        }
        return 2;
    }

    private void watchBoth() {
        Due.is(run + "watch", x.watch(), y.watch());
    }

    private void alterBoth(int k, int bits) {
        Due.is(run + "alter", x.alter(k, bits), y.alter(k, bits));
    }

    private void sealBoth() {
        Due.is(run + "seal", x.seal(), y.seal());
    }

    private void putBoth(int n, long bytes) {
        Due.is(run + "put", x.put(n, bytes), y.put(n, bytes));
    }

    private int spoiltPacket() {
        craftBoth();
        int times = 1 + random.nextInt(2);
        for (int i = 0; i < times; i++) {
            int[] places = {0, 2, 3, 6, 7, 9, 10, 11, 15, 19, 21, 23, 32, 33, 36, 37};
            int k = random.nextInt(4) == 0 ? near(0, 48) : places[random.nextInt(places.length)];
            alterBoth(k, random.nextBoolean() ? 1 << random.nextInt(9) : random.nextInt());
        }
        if (random.nextInt(3) != 0) {
            sealBoth();
        }
        watchBoth();
        return times + 3;
    }

    private int longPacket() {
        int ipWords = random.nextInt(10) == 0 ? near(5, 7) : 5 + random.nextInt(3);
        int tcpWords = random.nextInt(10) == 0 ? near(5, 8) : 5 + random.nextInt(4);
        int n = random.nextInt(100 - 4 * ipWords - 4 * tcpWords + 1);
        int more = random.nextInt(20) == 0 ? near(0, 12) : 0;
        boolean toSelf = random.nextInt(8) == 0;
        x.wipe();
        y.wipe();
        putBoth(4, (64L + ipWords) << 24 | (4 * ipWords + 4 * tcpWords + n));
        putBoth(8, 0x4000_4006_0000L);
        putBoth(8, 0x0A000001_0A000101L ^ (toSelf ? 0x100 : 0));
        for (int i = 5; i < ipWords; i++) {
            putBoth(4, random.nextInt());
        }
        putBoth(8, (toSelf ? 0x03E8_03E8_0000_0000L : 0x03E8_0050_0000_0000L)
                | sequenceFor(0, 0) & 0xFFFFFFFFL);
        putBoth(8, (long) tcpWords << 28 | (long) (flags() & 255) << 16);
        putBoth(4, random.nextInt());
        for (int i = 5; i < tcpWords; i++) {
            putBoth(4, random.nextInt());
        }
        for (int i = 0; i < n + more; i++) {
            putBoth(1, content(1));
        }
        sealBoth();
        watchBoth();
        return 30;
    }

    private int wireCalls() {
        if (random.nextInt(4) == 0) {
            x.wipe();
            y.wipe();
        }
        int times = random.nextInt(14);
        for (int i = 0; i < times; i++) {
            putBoth(near(1, 8), random.nextLong());
        }
        sealBoth();
        watchBoth();
        return times + 3;
    }

    private int ask() {
        int f = near(0, 3);
        int way = near(0, 1);
        int w = near(0, 5);
        int k = near(0, random.nextBoolean() ? 30 : 100);
        Due.is(run + "flow", x.flow(f, w), y.flow(f, w));
        Due.is(run + "stream", x.stream(f, way, w), y.stream(f, way, w));
        Due.is(run + "text", x.text(f, way, k), y.text(f, way, k));
        Due.is(run + "wire", x.wire(k), y.wire(k));
        Due.is(run + "alerts", x.alerts(), y.alerts());
        Due.is(run + "alert", x.alert(k, w), y.alert(k, w));
        return 6;
    }

    private void compareAll() {
        for (int f = 0; f < 4; f++) {
            for (int w = 0; w < 5; w++) {
                Due.is(run + "flow", x.flow(f, w), y.flow(f, w));
            }
            for (int way = 0; way < 2; way++) {
                for (int w = 0; w < 4; w++) {
                    Due.is(run + "stream", x.stream(f, way, w), y.stream(f, way, w));
                }
                for (int k = 0; k < 81; k++) {
                    Due.is(run + "text", x.text(f, way, k), y.text(f, way, k));
                }
            }
        }
        Due.is(run + "alerts", x.alerts(), y.alerts());
        for (int k = 0; k < 25; k++) {
            for (int w = 0; w < 4; w++) {
                Due.is(run + "alert", x.alert(k, w), y.alert(k, w));
            }
        }
        for (int k = -1; k < 100; k++) {
            Due.is(run + "wire", x.wire(k), y.wire(k));
        }
    }
}
