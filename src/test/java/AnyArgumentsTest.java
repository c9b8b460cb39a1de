import java.util.Random;

/**
 * "No call may ever throw by itself (only by a throw statement) or fail to end, for any arguments in
 * any state" (LANGUAGE.md, rule 7): runs with arguments from the whole range of their types, always
 * the same ones, compared with a second, plain writing of the document.
 */
public final class AnyArgumentsTest {
    private static final int RUNS = 300;
    private static final int CALLS = 400;
    private static final int[] EDGES = {Integer.MIN_VALUE, Integer.MIN_VALUE + 1, -65536, -256, -81,
        -80, -33, -32, -2, -1, 0, 1, 2, 3, 4, 5, 6, 7, 8, 9, 15, 16, 19, 20, 23, 24, 31, 32, 33, 39, 40,
        79, 80, 81, 99, 100, 101, 255, 256, 65535, 65536, Integer.MAX_VALUE - 1, Integer.MAX_VALUE};

    private final Random random;
    private final Pair both;

    private AnyArgumentsTest(int seed) {
        random = new Random(seed);
        both = new Pair("run " + seed + ": ", any());
    }

    public static void main(String[] args) {
        for (int seed = 0; seed < RUNS; seed++) {
            AnyArgumentsTest run = new AnyArgumentsTest(seed);
            for (int i = 0; i < CALLS; i++) {
                run.oneCall();
            }
        }
        Due.end();
    }

    private int any() {
        return random.nextInt(4) == 0 ? random.nextInt() : EDGES[random.nextInt(EDGES.length)];
    }

    /** A number of the stretch, so that calls get beyond their first argument, or any other one. */
    private int in(int low, int high) {
        return random.nextInt(6) == 0 ? any() : low + random.nextInt(high - low + 1);
    }

    private long anyLong() {
        return random.nextBoolean() ? random.nextLong() : any();
    }

    private void oneCall() {
        switch (random.nextInt(16)) {
            case 0 -> both.wipe();
            case 1 -> both.alter(in(0, 60), any());
            case 2 -> both.put(in(1, 8), anyLong());
            case 3 -> both.seal();
            case 4 -> both.wire(in(-1, 100));
            case 5 -> both.rule(in(0, 2), in(0, 80));
            case 6 -> both.option(in(1, 6), anyLong(), in(0, 7), in(-80, 80), in(0, 80));
            case 7 -> both.flow(in(0, 3), in(0, 4));
            case 8 -> both.stream(in(0, 3), in(0, 1), in(0, 3));
            case 9 -> both.text(in(0, 3), in(0, 1), in(0, 80));
            case 10 -> both.alerts();
            case 11 -> both.alert(in(0, 24), in(0, 3));
            default -> packet();
        }
    }

    private void packet() {
        both.craft(in(0, 7), in(0, 1), any(), any(), in(0, 8), anyLong());
        both.watch();
    }
}
