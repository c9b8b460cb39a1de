import java.util.ArrayList;
import java.util.HashMap;
import java.util.List;
import java.util.Map;

/**
 * The document once more, word for word and without care for speed or room, so that random runs
 * can be compared with it. A thrown exception is told by its class, as in StreamWatch.
 */
final class PlainWatch {
    private static final class OneStream {
        Integer next = null;
        final List<Integer> text = new ArrayList<>();
        final Map<Integer, Integer> held = new HashMap<>();
        final List<Integer> raised = new ArrayList<>();
        boolean ended = false;
    }

    private record End(int host, int port) {
    }

    private static final class OneFlow {
        End client;
        End server;
        final OneStream[] streams = {new OneStream(), new OneStream()};
    }

    private record OneOption(int[] content, boolean noCase, boolean not, boolean relative,
            int least, int span) {
    }

    private record OneRule(int way, int port, List<OneOption> options) {
    }

    private final int policy;
    private List<Integer> wire = new ArrayList<>();
    private final OneFlow[] flows = new OneFlow[4];
    private final List<OneFlow> heardOrder = new ArrayList<>();
    private final List<OneRule> rules = new ArrayList<>();
    private final List<int[]> alerts = new ArrayList<>();

    PlainWatch(int last) {
        policy = last != 0 ? 1 : 0;
    }

    int craft(int c, int way, int sequence, int flags, int n, long data) {
        if (c < 0 || c > 7 || way < 0 || way > 1 || n < 0 || n > 8) {
            throw new IllegalArgumentException();
        }
        int[] client = {10, 0, 0, 1 + c};
        int[] server = {10, 0, 1, 1};
        int[] from = way == 0 ? client : server;
        int[] to = way == 0 ? server : client;
        int fromPort = way == 0 ? 1000 + c : 80;
        int toPort = way == 0 ? 80 : 1000 + c;
        int[] all = {69, 0, 0, 40 + n, 0, 0, 0, 0, 0, 6, 0, 0,
            from[0], from[1], from[2], from[3], to[0], to[1], to[2], to[3],
            fromPort / 256, fromPort % 256, toPort / 256, toPort % 256,
            sequence >>> 24, sequence >>> 16 & 255, sequence >>> 8 & 255, sequence & 255,
            0, 0, 0, 0, 80, flags & 63, 0, 0, 0, 0, 0, 0};
        wire = new ArrayList<>();
        for (int one : all) {
            wire.add(one);
        }
        for (int i = n - 1; i >= 0; i--) {
            wire.add((int) (data >> 8 * i & 255));
        }
        seal();
        return wire.size();
    }

    boolean alter(int k, int bits) {
        if (k < 0 || k >= wire.size()) {
            return false;
        }
        wire.set(k, wire.get(k) ^ bits & 255);
        return true;
    }

    void wipe() {
        wire = new ArrayList<>();
    }

    boolean put(int n, long bytes) {
        if (n < 1 || n > 8 || wire.size() + n > 100) {
            return false;
        }
        for (int i = n - 1; i >= 0; i--) {
            wire.add((int) (bytes >> 8 * i & 255));
        }
        return true;
    }

    boolean seal() {
        for (int reason : reasons()) {
            if (reason != 4 && reason != 8) {
                return false;
            }
        }
        int tcp = (wire.get(0) - 64) * 4;
        setTwo(10, 0);
        setTwo(10, 65535 - sum(headerBytes()));
        setTwo(tcp + 16, 0);
        setTwo(tcp + 16, 65535 - sum(tcpBytes()));
        return true;
    }

    int wire(int k) {
        if (k == -1) {
            return wire.size();
        }
        return k < 0 || k >= wire.size() ? -1 : wire.get(k);
    }

    /** All reasons that are there, as far as those before them leave them a meaning. */
    private List<Integer> reasons() {
        if (wire.size() < 20) {
            return List.of(1);
        }
        if (wire.get(0) != 69 && wire.get(0) != 70 && wire.get(0) != 71) {
            return List.of(2);
        }
        int header = (wire.get(0) - 64) * 4;
        int length = two(2);
        if (length > wire.size() || length < header + 20) {
            return List.of(3);
        }
        List<Integer> all = new ArrayList<>();
        if (sum(headerBytes()) != 65535) {
            all.add(4);
        }
        if ((two(6) & 16383) != 0) {
            all.add(5);
        }
        if (wire.get(9) != 6) {
            all.add(6);
        }
        int words = wire.get(header + 12) / 16;
        if (words < 5 || words > 8 || header + 4 * words > length) {
            all.add(7);
        }
        if (sum(tcpBytes()) != 65535) {
            all.add(8);
        }
        return all;
    }

    private List<Integer> headerBytes() {
        return wire.subList(0, (wire.get(0) - 64) * 4);
    }

    private List<Integer> tcpBytes() {
        int header = (wire.get(0) - 64) * 4;
        int size = two(2) - header;
        List<Integer> all = new ArrayList<>(wire.subList(12, 20));
        all.addAll(List.of(0, 6, size / 256, size % 256));
        all.addAll(wire.subList(header, two(2)));
        return all;
    }

    private static int sum(List<Integer> bytes) {
        long sum = 0;
        for (int i = 0; i < bytes.size(); i += 2) {
            sum += bytes.get(i) * 256 + (i + 1 < bytes.size() ? bytes.get(i + 1) : 0);
        }
        while (sum > 65535) {
            sum = sum % 65536 + sum / 65536;
        }
        return (int) sum;
    }

    private int two(int k) {
        return wire.get(k) * 256 + wire.get(k + 1);
    }

    private int four(int k) {
        return two(k) * 65536 + two(k + 2);
    }

    private void setTwo(int k, int number) {
        wire.set(k, number / 256);
        wire.set(k + 1, number % 256);
    }

    int watch() {
        List<Integer> reasons = reasons();
        if (!reasons.isEmpty()) {
            return -1 - reasons.get(0);
        }
        int tcp = (wire.get(0) - 64) * 4;
        End from = new End(four(12), two(tcp));
        End to = new End(four(16), two(tcp + 2));
        int flags = wire.get(tcp + 13);
        boolean fin = (flags & 1) != 0;
        boolean syn = (flags & 2) != 0;
        boolean rst = (flags & 4) != 0;
        boolean ack = (flags & 16) != 0;
        OneFlow mine = null;
        for (OneFlow flow : flows) {
            if (flow != null && (flow.client.equals(from) && flow.server.equals(to)
                    || flow.client.equals(to) && flow.server.equals(from))) {
                mine = flow;
            }
        }
        if (mine == null && !(syn && !ack)) {
            return -10;
        }
        if (mine == null) {
            mine = make(from, to);
        }
        heardOrder.remove(mine);
        heardOrder.add(mine);
        if (rst) {
            free(mine);
            return 0;
        }
        int before = alerts.size();
        int way = mine.client.equals(from) ? 0 : 1;
        int start = four(tcp + 4) + (syn ? 1 : 0);
        int dataPlace = tcp + 4 * (wire.get(tcp + 12) / 16);
        List<Integer> data = wire.subList(dataPlace, two(2));
        take(mine, way, start, data);
        OneStream stream = mine.streams[way];
        if (fin && stream.next == start + data.size()) {
            stream.ended = true;
        }
        if (mine.streams[0].ended && mine.streams[1].ended) {
            free(mine);
        }
        return alerts.size() - before;
    }

    private OneFlow make(End from, End to) {
        boolean full = true;
        for (OneFlow flow : flows) {
            full &= flow != null;
        }
        if (full) {
            free(heardOrder.get(0));
        }
        OneFlow made = new OneFlow();
        made.client = from;
        made.server = to;
        for (int f = 0; f < 4; f++) {
            if (flows[f] == null) {
                flows[f] = made;
                break;
            }
        }
        return made;
    }

    private void free(OneFlow gone) {
        heardOrder.remove(gone);
        for (int f = 0; f < 4; f++) {
            if (flows[f] == gone) {
                flows[f] = null;
            }
        }
    }

    private void take(OneFlow flow, int way, int start, List<Integer> data) {
        OneStream stream = flow.streams[way];
        if (stream.next == null) {
            stream.next = start;
        }
        for (int i = 0; i < data.size(); i++) {
            int s = start + i;
            boolean before = s - stream.next < 0;
            boolean behind = s - (stream.next + 31) > 0;
            if (!before && !behind && (policy == 1 || !stream.held.containsKey(s))) {
                stream.held.put(s, data.get(i));
            }
        }
        while (stream.held.containsKey(stream.next)) {
            int value = stream.held.remove(stream.next);
            stream.next = stream.next + 1;
            if (stream.text.size() < 80) {
                stream.text.add(value);
                look(flow, way);
            }
        }
    }

    private void look(OneFlow flow, int way) {
        OneStream stream = flow.streams[way];
        for (int r = 0; r < rules.size(); r++) {
            OneRule rule = rules.get(r);
            boolean isFor = (rule.way == 2 || rule.way == way)
                    && (rule.port == 0 || rule.port == flow.server.port);
            if (isFor && !stream.raised.contains(r) && !rule.options.isEmpty()
                    && holds(rule.options, 0, 0, stream.text)) {
                stream.raised.add(r);
                alerts.add(new int[] {r, flow.client.port, way, stream.text.size()});
            }
        }
    }

    /** Tries every place for the options from i on, behind being where the nearest one ended. */
    private static boolean holds(List<OneOption> options, int i, int behind, List<Integer> text) {
        if (i == options.size()) {
            return true;
        }
        OneOption option = options.get(i);
        int base = option.relative ? behind : 0;
        boolean anywhere = false;
        for (int p = 0; p < text.size(); p++) {
            if (isFound(option, p, base, text)) {
                anywhere = true;
                if (!option.not && holds(options, i + 1, p + option.content.length, text)) {
                    return true;
                }
            }
        }
        return option.not && !anywhere && holds(options, i + 1, behind, text);
    }

    private static boolean isFound(OneOption option, int p, int base, List<Integer> text) {
        int n = option.content.length;
        if (p + n > text.size() || option.least > p - base) {
            return false;
        }
        if (option.span != 0 && p - base + n > option.least + option.span) {
            return false;
        }
        for (int i = 0; i < n; i++) {
            int a = text.get(p + i);
            int b = option.content[i];
            boolean sameLetter = option.noCase && (a ^ b) == 32
                    && ("abcdefghijklmnopqrstuvwxyz".indexOf(a | 32) >= 0);
            if (a != b && !sameLetter) {
                return false;
            }
        }
        return true;
    }

    int rule(int way, int port) {
        if (way < 0 || way > 2 || port < 0 || port > 65535) {
            throw new IllegalArgumentException();
        }
        if (rules.size() == 6) {
            throw new IllegalStateException();
        }
        rules.add(new OneRule(way, port, new ArrayList<>()));
        return rules.size() - 1;
    }

    int option(int n, long bytes, int marks, int least, int span) {
        if (n < 1 || n > 6 || marks < 0 || marks > 7 || least < -80 || least > 80
                || span < 0 || span > 80) {
            throw new IllegalArgumentException();
        }
        if (rules.isEmpty() || rules.get(rules.size() - 1).options.size() == 3) {
            throw new IllegalStateException();
        }
        int[] content = new int[n];
        for (int i = 0; i < n; i++) {
            content[n - 1 - i] = (int) (bytes >> 8 * i & 255);
        }
        List<OneOption> options = rules.get(rules.size() - 1).options;
        options.add(new OneOption(content, marks % 2 == 1, marks / 2 % 2 == 1, marks / 4 == 1,
                least, span));
        return options.size();
    }

    int flow(int f, int w) {
        if (f < 0 || f > 3 || flows[f] == null || w < 0 || w > 4) {
            return -1;
        }
        OneFlow flow = flows[f];
        int later = heardOrder.size() - 1 - heardOrder.indexOf(flow);
        int[] all = {flow.client.host, flow.client.port, flow.server.host, flow.server.port, later};
        return all[w];
    }

    int stream(int f, int way, int w) {
        if (f < 0 || f > 3 || flows[f] == null || way < 0 || way > 1 || w < 0 || w > 3) {
            return -1;
        }
        OneStream stream = flows[f].streams[way];
        int[] all = {stream.text.size(), stream.next == null ? 0 : stream.next, stream.held.size(),
            stream.ended ? 1 : 0};
        return all[w];
    }

    int text(int f, int way, int k) {
        if (f < 0 || f > 3 || flows[f] == null || way < 0 || way > 1) {
            return -1;
        }
        List<Integer> text = flows[f].streams[way].text;
        return k < 0 || k >= text.size() ? -1 : text.get(k);
    }

    int alerts() {
        return alerts.size();
    }

    int alert(int k, int w) {
        if (k < 0 || k >= alerts.size() || k >= 24 || w < 0 || w > 3) {
            return -1;
        }
        return alerts.get(alerts.size() - 1 - k)[w];
    }
}
