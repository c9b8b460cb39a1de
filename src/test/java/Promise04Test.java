/** Promise 4: wipe. */
public final class Promise04Test {
    public static void main(String[] args) {
        StreamWatch x = new StreamWatch(0);
        x.wipe();
        Due.is("wire(-1)", x.wire(-1), 0);
        x.rule(0, 0);
        Talk.option(x, "a", 0, 0, 0);
        Talk.send(x, 0, 0, 0, Talk.SYN, "ab");
        x.wipe();
        Due.is("wire(-1)", x.wire(-1), 0);
        Due.is("wire(0)", x.wire(0), -1);
        Due.is("watch()", x.watch(), -2);
        Due.is("seal()", x.seal(), false);
        Due.is("flow stays", x.flow(0, 1), 1000);
        Due.is("text stays", Talk.textOf(x, 0, 0), "ab");
        Due.is("alert stays", x.alerts(), 1);
        x.put(1, 9);
        Due.is("wire", Talk.wireOf(x), "9");
        Due.end();
    }
}
