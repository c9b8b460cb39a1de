/** Promise 1: a new object. */
public final class Promise01Test {
    public static void main(String[] args) {
        isEmptyAtFirst();
        policyOf(0, "abcXYf");
        policyOf(1, "abCDEf");
        policyOf(-1, "abCDEf");
        policyOf(256, "abCDEf");
        policyOf(Integer.MIN_VALUE, "abCDEf");
        objectsShareNothing();
        Due.end();
    }

    private static void isEmptyAtFirst() {
        StreamWatch x = new StreamWatch(0);
        Due.is("NONE", StreamWatch.NONE, -1);
        Due.is("wire(-1)", x.wire(-1), 0);
        Due.is("wire(0)", x.wire(0), -1);
        Due.is("alerts()", x.alerts(), 0);
        Due.is("alert(0, 0)", x.alert(0, 0), -1);
        for (int f = 0; f < 4; f++) {
            Due.is("flow", x.flow(f, 0), -1);
            Due.is("stream", x.stream(f, 0, 0), -1);
            Due.is("text", x.text(f, 0, 0), -1);
        }
        Due.is("watch()", x.watch(), -2);
        Due.isThrown("option", IllegalStateException.class, () -> x.option(1, 97, 0, 0, 0));
        Due.is("rule(0, 0)", x.rule(0, 0), 0);
    }

    /** Held c, X, Y are met by C, D, E; a and b fill what is before them. */
    private static void policyOf(int last, String text) {
        StreamWatch x = Talk.opened(last);
        Talk.send(x, 0, 0, 3, Talk.ACK, "cXY");
        Talk.send(x, 0, 0, 3, Talk.ACK, "CDEf");
        Due.is("held", x.stream(0, 0, 2), 4);
        Talk.send(x, 0, 0, 1, Talk.ACK, "ab");
        Due.is("text with policy " + last, Talk.textOf(x, 0, 0), text);
    }

    private static void objectsShareNothing() {
        StreamWatch x = Talk.opened(0);
        x.rule(0, 0);
        StreamWatch y = new StreamWatch(0);
        Due.is("other's wire", y.wire(-1), 0);
        Due.is("other's flow", y.flow(0, 1), -1);
        Due.is("other's rule", y.rule(0, 0), 0);
    }
}
