import java.util.Random;

/** Promises 1 to 15: random runs of calls, compared with a second, plain writing of the document. */
public final class PlainWatchTest {
    private static final int RUNS = 4000;
    private static final String LETTERS = "aAbBz@[`{";
    /** So many calls the longest of the last comparisons takes. */
    private static final int LAST_CALLS = 162;

    private final Random random;
    private final Pair both;
    private final int base;

    private PlainWatchTest(int seed) {
        random = new Random(seed);
        both = new Pair("run " + seed + ": ", random.nextInt(3) - 1);
        int[] bases = {0, 100, -20, Integer.MAX_VALUE - 20, random.nextInt()};
        base = bases[random.nextInt(bases.length)];
    }

    public static void main(String[] args) {
        for (int seed = 0; seed < RUNS; seed++) {
            new PlainWatchTest(seed).go();
        }
        Due.end();
    }

    private void go() {
        int early = random.nextInt(30);
        for (int i = 0; i < early; i++) {
            ruleOrOption();
        }
        int kept = random.nextInt(4) == 0 ? 0 : LAST_CALLS;
        while (both.left() > kept) {
            oneStep();
        }
        compareAtLast();
    }

    private void oneStep() {
        int kind = random.nextInt(100);
        if (kind < 60) {
            packet();
        } else if (kind < 70) {
            spoiltPacket();
        } else if (kind < 76) {
            longPacket();
        } else if (kind < 80) {
            ruleOrOption();
        } else if (kind < 84) {
            wireCalls();
        } else {
            ask();
        }
    }

    private long content(int n) {
        long number = random.nextInt(4) == 0 ? random.nextLong() : 0;
        for (int i = 0; i < n; i++) {
            number = number << 8 | LETTERS.charAt(random.nextInt(LETTERS.length()));
        }
        return number;
    }

    private int near(int low, int high) {
        return low - 1 + random.nextInt(high - low + 3);
    }

    private void ruleOrOption() {
        if (random.nextInt(3) == 0) {
            int way = random.nextInt(20) == 0 ? near(0, 2) : random.nextInt(3);
            int[] ports = {0, 0, 80, 80, 1000, 65535, 65536, -1};
            both.rule(way, ports[random.nextInt(ports.length)]);
            return;
        }
        int n = random.nextInt(15) == 0 ? near(1, 6) : 1 + random.nextInt(2);
        long bytes = content(n);
        int marks = random.nextInt(30) == 0 ? near(0, 7) : random.nextInt(8);
        int least = random.nextInt(8) == 0 ? near(-80, 80) : random.nextInt(9) - 4;
        int span = random.nextInt(8) == 0 ? near(0, 80) : random.nextInt(8);
        both.option(n, bytes, marks, least, span);
    }

    private int flags() {
        int[] usual = {16, 16, 16, 16, 16, 0, 2, 2, 18, 3, 17, 17, 1, 4, 6, 20};
        return random.nextInt(20) == 0 ? random.nextInt() : usual[random.nextInt(usual.length)];
    }

    private int sequence() {
        return random.nextInt(30) == 0 ? random.nextInt() : base + random.nextInt(70) - 5;
    }

    /** Mostly where the stream goes on, so that texts grow long. */
    private int sequenceFor(int c, int way) {
        PlainWatch known = both.plain();
        for (int f = 0; f < 4; f++) {
            if (known.flow(f, 1) == 1000 + c && random.nextInt(3) != 0) {
                return known.stream(f, way, 1) + (random.nextInt(2) == 0 ? 0 : random.nextInt(5) - 2);
            }
        }
        return sequence();
    }

    private void craft() {
        int c = random.nextInt(40) == 0 ? near(0, 7) : random.nextInt(random.nextInt(4) == 0 ? 8 : 3);
        int way = random.nextInt(40) == 0 ? near(0, 1) : random.nextInt(3) / 2;
        int n = random.nextInt(40) == 0 ? near(0, 8) : random.nextInt(9);
        both.craft(c, way, sequenceFor(c, way), flags(), n, content(n));
    }

    private void packet() {
        craft();
        both.watch();
        if (random.nextInt(10) == 0) {
            both.watch();
        }
    }

    private void spoiltPacket() {
        craft();
        int times = 1 + random.nextInt(2);
        for (int i = 0; i < times; i++) {
            int[] places = {0, 2, 3, 6, 7, 9, 10, 11, 15, 19, 21, 23, 32, 33, 36, 37};
            int k = random.nextInt(4) == 0 ? near(0, 48) : places[random.nextInt(places.length)];
            both.alter(k, random.nextBoolean() ? 1 << random.nextInt(9) : random.nextInt());
        }
        if (random.nextInt(3) != 0) {
            both.seal();
        }
        both.watch();
    }

    private void longPacket() {
        int ipWords = random.nextInt(10) == 0 ? near(5, 7) : 5 + random.nextInt(3);
        int tcpWords = random.nextInt(10) == 0 ? near(5, 8) : 5 + random.nextInt(4);
        int n = random.nextInt(100 - 4 * ipWords - 4 * tcpWords + 1);
        boolean toSelf = random.nextInt(8) == 0;
        both.wipe();
        both.put(4, (64L + ipWords) << 24 | (4 * ipWords + 4 * tcpWords + n));
        both.put(8, 0x4000_4006_0000L);
        both.put(8, 0x0A000001_0A000101L ^ (toSelf ? 0x100 : 0));
        putWords(ipWords - 5);
        both.put(8, (toSelf ? 0x03E8_03E8_0000_0000L : 0x03E8_0050_0000_0000L)
                | sequenceFor(0, 0) & 0xFFFFFFFFL);
        both.put(8, (long) tcpWords << 28 | (long) (flags() & 255) << 16);
        both.put(4, random.nextInt());
        putWords(tcpWords - 5);
        int more = random.nextInt(20) == 0 ? near(0, 12) : 0;
        for (int left = n + more; left > 0; left -= 8) {
            int size = Math.min(left, 8);
            both.put(size, content(size));
        }
        both.seal();
        both.watch();
    }

    private void putWords(int count) {
        for (int i = 0; i < count; i++) {
            both.put(4, random.nextInt());
        }
    }

    private void wireCalls() {
        if (random.nextInt(4) == 0) {
            both.wipe();
        }
        int times = random.nextInt(14);
        for (int i = 0; i < times; i++) {
            both.put(near(1, 8), random.nextLong());
        }
        both.seal();
        both.watch();
    }

    private void ask() {
        int f = near(0, 3);
        int way = near(0, 1);
        int w = near(0, 5);
        int k = near(0, random.nextBoolean() ? 30 : 100);
        both.flow(f, w);
        both.stream(f, way, w);
        both.text(f, way, k);
        both.wire(k);
        both.alerts();
        both.alert(k, w);
    }

    /** As much of the state as the calls that are left can ask for. */
    private void compareAtLast() {
        int kind = random.nextInt(4);
        if (kind == 0) {
            compareFlows();
        } else if (kind == 1) {
            int f = random.nextInt(4);
            for (int k = 0; k < 81; k++) {
                both.text(f, 0, k);
                both.text(f, 1, k);
            }
        } else if (kind == 2) {
            both.alerts();
            for (int k = 0; k < 25; k++) {
                for (int w = 0; w < 4; w++) {
                    both.alert(k, w);
                }
            }
        } else {
            for (int k = -1; k < 101; k++) {
                both.wire(k);
            }
        }
    }

    private void compareFlows() {
        for (int f = 0; f < 4; f++) {
            for (int w = 0; w < 5; w++) {
                both.flow(f, w);
            }
            for (int way = 0; way < 2; way++) {
                for (int w = 0; w < 4; w++) {
                    both.stream(f, way, w);
                }
            }
        }
    }
}
