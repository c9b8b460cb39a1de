/**
 * "A call that answers false or NONE, or throws, changes nothing." Each call that can be refused is
 * made on one of two watches with the same past; afterwards both must answer all else alike.
 */
public final class RefusedTest {
    private static final int SYN = Talk.SYN;
    private static final int ACK = Talk.ACK;
    private static final int FIN = Talk.FIN;
    private static final int MIN = Integer.MIN_VALUE;
    private static final int MAX = Integer.MAX_VALUE;

    /** Pasts of a watch, told by their number. */
    private static final int PASTS = 5;

    /** A call that must be refused; what it answers as a number. */
    private interface Refused {
        long on(StreamWatch x);
    }

    public static void main(String[] args) {
        crafts();
        alters();
        puts();
        seals();
        wires();
        watches();
        rules();
        options();
        asked();
        Due.end();
    }

    private static StreamWatch withPast(int past) {
        StreamWatch x = new StreamWatch(past % 2);
        if (past == 0) {
            return x;
        }
        x.rule(2, 80);
        Talk.option(x, "a", 0, 0, 0);
        x.rule(0, 0);
        Talk.option(x, "z", 2, 0, 2);
        Talk.option(x, "b", 4, 0, 1);
        for (int c = 0; c <= past % 4 + 1 && c < 4; c++) {
            Talk.send(x, c, 0, -2, SYN, "ab");
            Talk.send(x, c, 0, 4, ACK, "fg");
            Talk.send(x, c, 1, 70, c % 2 == 0 ? ACK : FIN, "za");
        }
        Talk.send(x, 0, 0, 1, ACK, "c");
        if (past >= 3) {
            for (int r = 2; r < 6; r++) {
                x.rule(r % 3, 0);
            }
            Talk.option(x, "q", 0, 0, 0);
            Talk.option(x, "r", 0, 0, 0);
            Talk.option(x, "s", 0, 0, 0);
        }
        if (past == 4) {
            Raw.plain("0123456789".repeat(6)).setTcp(13, ACK).sumUp().putOn(x);
        }
        return x;
    }

    private static String flowsOf(StreamWatch x) {
        StringBuilder all = new StringBuilder();
        for (int f = 0; f < 4; f++) {
            for (int w = 0; w < 5; w++) {
                all.append(x.flow(f, w)).append(' ');
            }
            for (int way = 0; way < 2; way++) {
                all.append(Talk.streamOf(x, f, way)).append(' ').append(Talk.textOf(x, f, way));
                all.append(" / ");
            }
        }
        return all.toString();
    }

    private static String alertsOf(StreamWatch x) {
        StringBuilder all = new StringBuilder();
        all.append(x.alerts());
        for (int k = 0; k < 12; k++) {
            all.append(", ").append(Talk.alertOf(x, k));
        }
        return all.toString();
    }

    /** What comes of calls that show rules, places, order, held bytes and policy of the past. */
    private static String future(StreamWatch x) {
        StringBuilder all = new StringBuilder();
        all.append(Due.caught(() -> Talk.option(x, "c", 0, 0, 0))).append(' ');
        all.append(Due.caught(() -> x.rule(2, 0))).append(' ');
        all.append(Due.caught(() -> Talk.option(x, "e", 0, 0, 0))).append(' ');
        for (int c = 0; c < 4; c++) {
            all.append(Talk.send(x, c, 0, 2, ACK, "dEFGHI")).append(' ');
            all.append(Talk.send(x, c, 0, 1, ACK, "c")).append(' ');
            all.append(Talk.send(x, c, 1, 72, ACK, "az")).append(' ');
        }
        all.append(Talk.send(x, 1, 0, 9, FIN, "")).append(' ');
        all.append(Talk.send(x, 6, 0, 0, SYN, "ab")).append(' ');
        return all.toString();
    }

    private static void isSame(String what, Refused call, long want, int past) {
        String name = what + " after past " + past;
        StreamWatch x = withPast(past);
        StreamWatch y = withPast(past);
        Due.is(name, call.on(x), want);
        Due.is(name + ": wire", Talk.wireOf(x), Talk.wireOf(y));
        Due.is(name + ": seal", x.seal(), y.seal());
        Due.is(name + ": watch", x.watch(), y.watch());
        Due.is(name + ": flows", flowsOf(x), flowsOf(y));
        Due.is(name + ": alerts", alertsOf(x), alertsOf(y));
        StreamWatch v = withPast(past);
        StreamWatch w = withPast(past);
        call.on(v);
        Due.is(name + ": future", future(v), future(w));
        Due.is(name + ": flows of the future", flowsOf(v), flowsOf(w));
        Due.is(name + ": alerts of the future", alertsOf(v), alertsOf(w));
    }

    private static void isRefused(String what, Refused call, long want) {
        for (int past = 0; past < PASTS; past++) {
            isSame(what, call, want, past);
        }
    }

    private static void crafts() {
        int[][] wrong = {{-1, 0, 0}, {8, 0, 0}, {MIN, 0, 0}, {MAX, 0, 0}, {0, -1, 0}, {0, 2, 0},
            {0, MIN, 0}, {0, MAX, 0}, {0, 0, -1}, {0, 0, 9}, {0, 0, MIN}, {0, 0, MAX}};
        for (int[] a : wrong) {
            isRefused("craft(" + a[0] + ", " + a[1] + ", .., " + a[2] + ", ..)",
                    x -> Due.caught(() -> x.craft(a[0], a[1], 7, SYN, a[2], -1)), Due.ARGUMENT);
        }
    }

    private static void alters() {
        int[] wrong = {-1, -2, 100, 101, MIN, MAX};
        for (int k : wrong) {
            isRefused("alter(" + k + ", 255)", x -> x.alter(k, 255) ? 1 : 0, 0);
        }
        isRefused("alter just behind the wire", x -> x.alter(x.wire(-1), 255) ? 1 : 0, 0);
    }

    private static void puts() {
        int[] wrong = {0, -1, 9, MIN, MAX};
        for (int n : wrong) {
            isRefused("put(" + n + ", -1)", x -> x.put(n, -1) ? 1 : 0, 0);
        }
        for (int n = 1; n <= 8; n++) {
            int size = n;
            isSame("put(" + n + ", -1) on a full wire", x -> x.put(size, -1) ? 1 : 0, 0, 4);
        }
    }

    /** A wire that seal refuses stays as it is, and so does all else. */
    private static void seals() {
        Raw[] wrong = {Raw.plain("ab").set(0, 68), Raw.plain("ab").set(0, 72),
            Raw.plain("ab").setLength(43), Raw.plain("ab").setLength(39), Raw.plain("ab").set(6, 32),
            Raw.plain("ab").set(7, 1), Raw.plain("ab").set(9, 7), Raw.plain("ab").setTcp(12, 0x40),
            Raw.plain("ab").setTcp(12, 0x90), Raw.plain("ab").setTcp(12, 0x60)};
        for (int i = 0; i < wrong.length; i++) {
            for (int past = 0; past < PASTS; past++) {
                StreamWatch x = withPast(past);
                StreamWatch y = withPast(past);
                wrong[i].putOn(x);
                wrong[i].putOn(y);
                Due.is("seal of wrong wire " + i, x.seal(), false);
                Due.is("wire " + i, Talk.wireOf(x), Talk.wireOf(y));
                Due.is("future of wire " + i, future(x), future(y));
                Due.is("flows of wire " + i, flowsOf(x), flowsOf(y));
            }
        }
        isSame("seal of an empty wire", x -> x.seal() ? 1 : 0, 0, 0);
    }

    private static void wires() {
        int[] wrong = {-2, 100, MIN, MAX};
        for (int k : wrong) {
            isRefused("wire(" + k + ")", x -> x.wire(k), -1);
        }
        isRefused("wire just behind the end", x -> x.wire(x.wire(-1)), -1);
    }

    /** What is no packet, or counts for nothing, for each reason. */
    private static void watches() {
        Raw plain = Raw.plain("ab");
        isWatchedInVain("reason 1", plain, 19, -2);
        isWatchedInVain("reason 2", Raw.plain("ab").set(0, 68), 42, -3);
        isWatchedInVain("reason 3", plain, 41, -4);
        isWatchedInVain("reason 4", Raw.plain("ab").set(10, 0), 42, -5);
        isWatchedInVain("reason 5", Raw.plain("ab").set(7, 1).sumUp(), 42, -6);
        isWatchedInVain("reason 6", Raw.plain("ab").set(9, 17).sumUp(), 42, -7);
        isWatchedInVain("reason 7", Raw.plain("ab").setTcp(12, 0x40).sumUp(), 42, -8);
        isWatchedInVain("reason 8", Raw.plain("ab").setTcp(16, 0), 42, -9);
        for (int flags : new int[] {0, ACK, FIN, Talk.RST, SYN | ACK, Talk.RST | SYN | ACK}) {
            Raw other = Raw.plain("ab").setTwo(20, 5000).setTcp(13, flags).sumUp();
            isWatchedInVain("reason 9, flags " + flags, other, 42, -10);
        }
    }

    private static void isWatchedInVain(String why, Raw raw, int size, int want) {
        for (int past = 0; past < PASTS; past++) {
            StreamWatch x = withPast(past);
            StreamWatch y = withPast(past);
            raw.putOn(x, size);
            raw.putOn(y, size);
            Due.is(why, x.watch(), want);
            Due.is(why + ": wire", Talk.wireOf(x), Talk.wireOf(y));
            Due.is(why + ": flows", flowsOf(x), flowsOf(y));
            Due.is(why + ": alerts", x.alerts(), y.alerts());
            Due.is(why + ": future", future(x), future(y));
            Due.is(why + ": flows of the future", flowsOf(x), flowsOf(y));
        }
    }

    private static void rules() {
        int[][] wrong = {{-1, 0}, {3, 0}, {MIN, 0}, {MAX, 0}, {0, -1}, {0, 65536}, {0, MIN}, {0, MAX}};
        for (int[] a : wrong) {
            isRefused("rule(" + a[0] + ", " + a[1] + ")",
                    x -> Due.caught(() -> x.rule(a[0], a[1])), Due.ARGUMENT);
        }
        for (int past = 3; past < PASTS; past++) {
            isSame("a seventh rule", x -> Due.caught(() -> x.rule(2, 0)), Due.STATE, past);
        }
    }

    private static void options() {
        int[][] wrong = {{0, 0, 0, 0}, {7, 0, 0, 0}, {MIN, 0, 0, 0}, {MAX, 0, 0, 0}, {1, -1, 0, 0},
            {1, 8, 0, 0}, {1, MIN, 0, 0}, {1, MAX, 0, 0}, {1, 0, -81, 0}, {1, 0, 81, 0},
            {1, 0, MIN, 0}, {1, 0, MAX, 0}, {1, 0, 0, -1}, {1, 0, 0, 81}, {1, 0, 0, MIN},
            {1, 0, 0, MAX}};
        for (int[] a : wrong) {
            isRefused("option(" + a[0] + ", .., " + a[1] + ", " + a[2] + ", " + a[3] + ")",
                    x -> Due.caught(() -> x.option(a[0], 'z', a[1], a[2], a[3])), Due.ARGUMENT);
        }
        isSame("an option without a rule", x -> Due.caught(() -> x.option(1, 'z', 0, 0, 0)), Due.STATE, 0);
        for (int past = 3; past < PASTS; past++) {
            isSame("a fourth option", x -> Due.caught(() -> x.option(1, 'z', 2, 0, 0)), Due.STATE, past);
        }
    }

    private static void asked() {
        int[] wrong = {-1, 5, MIN, MAX};
        for (int a : wrong) {
            isRefused("flow(" + a + ", 0)", x -> x.flow(a, 0), -1);
            isRefused("flow(0, " + a + ")", x -> x.flow(0, a), -1);
            isRefused("stream(" + a + ", 0, 0)", x -> x.stream(a, 0, 0), -1);
            isRefused("stream(0, " + a + ", 0)", x -> x.stream(0, a, 0), -1);
            isRefused("stream(0, 0, " + a + ")", x -> x.stream(0, 0, a), -1);
            isRefused("text(" + a + ", 0, 0)", x -> x.text(a, 0, 0), -1);
            isRefused("text(0, " + a + ", 0)", x -> x.text(0, a, 0), -1);
            isRefused("text(0, 0, " + a + ")", x -> x.text(0, 0, a), -1);
            isRefused("alert(0, " + a + ")", x -> x.alert(0, a), -1);
        }
        for (int k : new int[] {-1, 24, MIN, MAX}) {
            isRefused("alert(" + k + ", 0)", x -> x.alert(k, 0), -1);
        }
        isRefused("just behind the text", x -> x.text(0, 0, x.stream(0, 0, 0)), -1);
        isRefused("just behind the alerts", x -> x.alert(x.alerts(), 0), -1);
    }
}
