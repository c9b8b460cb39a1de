/**
 * Watches packets between hosts: takes them apart, puts what they carry back into streams of
 * bytes, and raises an alert when a rule's options hold on a stream.
 */
public final class StreamWatch {
    public static final int NONE = -1;

    private static final int FIN = 1;
    private static final int SYN = 2;
    private static final int RST = 4;
    private static final int ACK = 16;

    private static final int WITHOUT_FLOW = 9;
    private static final int RULE_LIMIT = 6;
    private static final int OPTION_LIMIT = 3;
    private static final int CONTENT_LIMIT = 6;
    private static final int TEXT_LIMIT = 80;
    private static final int WINDOW = 32;

    private static final int CRAFT_CLIENTS = 8;
    private static final int CRAFT_CLIENT_HOST = 0x0A000001;
    private static final int CRAFT_CLIENT_PORT = 1000;
    private static final int CRAFT_SERVER_HOST = 0x0A000101;
    private static final int CRAFT_SERVER_PORT = 80;

    private final boolean lastStays;
    private final Wire line = new Wire();
    private final Packet packet = new Packet();
    private final FlowTable flows = new FlowTable();
    private final Rule[] rules = new Rule[RULE_LIMIT];
    private final Search search = new Search();
    private final AlertLog log = new AlertLog();
    private int ruleCount = 0;

    public StreamWatch(int last) {
        lastStays = last != 0;
    }

    public int craft(int c, int way, int sequence, int flags, int n, long data)
            throws IllegalArgumentException {
        if (c < 0 || c >= CRAFT_CLIENTS) {
            throw new IllegalArgumentException("c is not 0 .. 7");
        }
        if (way != 0 && way != 1) {
            throw new IllegalArgumentException("way is not 0 or 1");
        }
        if (n < 0 || n > 8) {
            throw new IllegalArgumentException("n is not 0 .. 8");
        }
        line.clear();
        writeIpHeader(c, way, n);
        writeTcpHeader(c, way, sequence, flags);
        line.append(n, data);
        line.makeSumsRight();
        return line.size();
    }

    public boolean alter(int k, int bits) {
        return line.flip(k, bits);
    }

    public void wipe() {
        line.clear();
    }

    public boolean put(int n, long bytes) {
        return n >= 1 && n <= 8 && line.append(n, bytes);
    }

    public boolean seal() {
        if (line.fault(false) != 0) {
            return false;
        }
        line.makeSumsRight();
        return true;
    }

    public int wire(int k) {
        if (k == -1) {
            return line.size();
        }
        return line.has(k) ? line.at(k) : NONE;
    }

    public int watch() {
        int reason = line.fault(true);
        if (reason != 0) {
            return -1 - reason;
        }
        packet.read(line);
        Flow heard = flowOfPacket();
        if (heard == null) {
            return -1 - WITHOUT_FLOW;
        }
        flows.hear(heard);
        int before = log.total();
        if (packet.hasFlag(RST)) {
            heard.free();
        } else {
            receive(heard, heard.wayOf(packet));
        }
        return log.total() - before;
    }

    public int rule(int way, int port) throws IllegalArgumentException, IllegalStateException {
        if (way < 0 || way > 2) {
            throw new IllegalArgumentException("way is not 0 .. 2");
        }
        if (port < 0 || port > 65535) {
            throw new IllegalArgumentException("port is not 0 .. 65535");
        }
        if (ruleCount >= RULE_LIMIT) {
            throw new IllegalStateException("there are 6 rules");
        }
        rules[ruleCount] = new Rule(way, port);
        ruleCount++;
        return ruleCount - 1;
    }

    public int option(int n, long bytes, int marks, int least, int span)
            throws IllegalArgumentException, IllegalStateException {
        if (n < 1 || n > CONTENT_LIMIT) {
            throw new IllegalArgumentException("n is not 1 .. 6");
        }
        if (marks < 0 || marks > 7) {
            throw new IllegalArgumentException("marks is not 0 .. 7");
        }
        if (least < -TEXT_LIMIT || least > TEXT_LIMIT) {
            throw new IllegalArgumentException("least is not -80 .. 80");
        }
        if (span < 0 || span > TEXT_LIMIT) {
            throw new IllegalArgumentException("span is not 0 .. 80");
        }
        Rule latest = ruleAt(ruleCount - 1);
        if (latest == null) {
            throw new IllegalStateException("there is no rule");
        }
        if (latest.size() >= OPTION_LIMIT) {
            throw new IllegalStateException("the rule has 3 options");
        }
        latest.add(new Option(n, bytes, marks, least, span));
        return latest.size();
    }

    public int flow(int f, int w) {
        Flow asked = flows.at(f);
        if (asked == null) {
            return NONE;
        }
        switch (w) {
            case 0:
                return asked.clientHost;
            case 1:
                return asked.clientPort;
            case 2:
                return asked.serverHost;
            case 3:
                return asked.serverPort;
            case 4:
                return flows.heardAfter(asked);
            default:
                return NONE;
        }
    }

    public int stream(int f, int way, int w) {
        Stream asked = streamAt(f, way);
        if (asked == null) {
            return NONE;
        }
        switch (w) {
            case 0:
                return asked.size();
            case 1:
                return asked.next();
            case 2:
                return asked.heldCount();
            case 3:
                return asked.hasEnded() ? 1 : 0;
            default:
                return NONE;
        }
    }

    public int text(int f, int way, int k) {
        Stream asked = streamAt(f, way);
        return asked == null ? NONE : asked.byteAt(k);
    }

    public int alerts() {
        return log.total();
    }

    public int alert(int k, int w) {
        return log.read(k, w);
    }

    private void writeIpHeader(int c, int way, int n) {
        int client = CRAFT_CLIENT_HOST + c;
        line.append(2, 69 << 8);
        line.append(2, 40 + n);
        line.append(4, 0);
        line.append(4, Wire.TCP << 16);
        line.append(4, way == 0 ? client : CRAFT_SERVER_HOST);
        line.append(4, way == 0 ? CRAFT_SERVER_HOST : client);
    }

    private void writeTcpHeader(int c, int way, int sequence, int flags) {
        int client = CRAFT_CLIENT_PORT + c;
        line.append(2, way == 0 ? client : CRAFT_SERVER_PORT);
        line.append(2, way == 0 ? CRAFT_SERVER_PORT : client);
        line.append(4, sequence);
        line.append(4, 0);
        line.append(2, (5 << 12) | (flags & 63));
        line.append(6, 0);
    }

    /** The flow of the packet, made now if the packet makes one; null if it counts for nothing. */
    private Flow flowOfPacket() {
        Flow known = flows.of(packet);
        if (known != null) {
            return known;
        }
        boolean makesOne = packet.hasFlag(SYN) && !packet.hasFlag(ACK);
        return makesOne ? flows.open(packet) : null;
    }

    private void receive(Flow heard, int way) {
        Stream stream = heard.streamOf(way);
        if (stream == null) {
            return;
        }
        stream.begin(packet.firstNumber);
        holdData(stream);
        for (int i = 0; i < WINDOW && stream.isNextHeld(); i++) {
            if (stream.takeNext()) {
                raiseAlerts(heard, stream, way);
            }
        }
        if (packet.hasFlag(FIN) && stream.next() == packet.firstNumber + packet.dataSize) {
            stream.end();
            heard.freeIfBothEnded();
        }
    }

    private void holdData(Stream stream) {
        for (int i = 0; i < packet.dataSize; i++) {
            stream.hold(packet.firstNumber + i, line.at(packet.dataStart + i), lastStays);
        }
    }

    private void raiseAlerts(Flow heard, Stream stream, int way) {
        for (int r = 0; r < ruleCount; r++) {
            Rule asked = ruleAt(r);
            if (asked == null || !asked.isFor(way, heard.serverPort) || stream.hasRaised(r)) {
                continue;
            }
            if (search.holds(asked, stream)) {
                stream.setRaised(r);
                log.add(r, heard.clientPort, way, stream.size());
            }
        }
    }

    /** Rule r, null if there is none. */
    private Rule ruleAt(int r) {
        return r >= 0 && r < ruleCount ? rules[r] : null;
    }

    private Stream streamAt(int f, int way) {
        Flow asked = flows.at(f);
        return asked == null ? null : asked.streamOf(way);
    }

    /** The bytes on the wire, and what they mean as a packet. */
    private static final class Wire {
        static final int TCP = 6;
        private static final int LIMIT = 100;
        private static final int RIGHT_SUM = 65535;

        private final int[] bytes = new int[LIMIT];
        private int count = 0;

        int size() {
            return count;
        }

        boolean has(int k) {
            return k >= 0 && k < count;
        }

        int at(int k) {
            return has(k) ? bytes[k] : 0;
        }

        void clear() {
            count = 0;
        }

        boolean flip(int k, int bits) {
            if (!has(k)) {
                return false;
            }
            bytes[k] ^= bits & 255;
            return true;
        }

        boolean append(int n, long added) {
            if (n > LIMIT - count) {
                return false;
            }
            for (int i = n - 1; i >= 0; i--) {
                bytes[count] = (int) (added >>> (8 * i)) & 255;
                count++;
            }
            return true;
        }

        /** The first reason why this is no packet, 0 if there is none; the sums only if asked. */
        int fault(boolean sumsToo) {
            if (count < 20) {
                return 1;
            }
            if (at(0) < 69 || at(0) > 71) {
                return 2;
            }
            if (length() > count || length() < ipSize() + 20) {
                return 3;
            }
            if (sumsToo && ipSum() != RIGHT_SUM) {
                return 4;
            }
            if ((pairAt(6) & 16383) != 0) {
                return 5;
            }
            if (at(9) != TCP) {
                return 6;
            }
            if (tcpWords() < 5 || tcpWords() > 8 || dataStart() > length()) {
                return 7;
            }
            if (sumsToo && tcpSum() != RIGHT_SUM) {
                return 8;
            }
            return 0;
        }

        void makeSumsRight() {
            int tcpPlace = ipSize() + 16;
            setPair(10, 0);
            setPair(10, RIGHT_SUM - ipSum());
            setPair(tcpPlace, 0);
            setPair(tcpPlace, RIGHT_SUM - tcpSum());
        }

        int ipSize() {
            return (at(0) & 15) * 4;
        }

        int length() {
            return pairAt(2);
        }

        int dataStart() {
            return ipSize() + tcpWords() * 4;
        }

        int pairAt(int k) {
            return (at(k) << 8) | at(k + 1);
        }

        int quadAt(int k) {
            return (pairAt(k) << 16) | pairAt(k + 2);
        }

        private int tcpWords() {
            return at(ipSize() + 12) >> 4;
        }

        private int ipSum() {
            return sumOf(0, ipSize(), 0);
        }

        private int tcpSum() {
            int sum = sumOf(12, 20, 0);
            sum = addToSum(sum, TCP);
            sum = addToSum(sum, length() - ipSize());
            return sumOf(ipSize(), length(), sum);
        }

        private int sumOf(int from, int end, int start) {
            int sum = start;
            for (int k = from; k < end; k += 2) {
                // The wire may go on behind the end, and what is there is not part of the sum.
                int low = k + 1 < end ? at(k + 1) : 0;
                sum = addToSum(sum, (at(k) << 8) | low);
            }
            return sum;
        }

        /** Folding after every number ends at the same sum as folding once they are all added. */
        private static int addToSum(int sum, int number) {
            int grown = sum + number;
            return (grown & 65535) + (grown >>> 16);
        }

        private void setPair(int k, int number) {
            if (has(k) && has(k + 1)) {
                bytes[k] = (number >> 8) & 255;
                bytes[k + 1] = number & 255;
            }
        }
    }

    /** What the watch needs to know of a wire that is a packet. */
    private static final class Packet {
        int fromHost = 0;
        int fromPort = 0;
        int toHost = 0;
        int toPort = 0;
        int firstNumber = 0;
        int dataStart = 0;
        int dataSize = 0;
        private int flags = 0;

        void read(Wire line) {
            int tcp = line.ipSize();
            fromHost = line.quadAt(12);
            toHost = line.quadAt(16);
            fromPort = line.pairAt(tcp);
            toPort = line.pairAt(tcp + 2);
            flags = line.at(tcp + 13);
            // SYN takes a number of its own, so the data behind it begin one later.
            firstNumber = line.quadAt(tcp + 4) + (hasFlag(SYN) ? 1 : 0);
            dataStart = line.dataStart();
            dataSize = line.length() - dataStart;
        }

        boolean hasFlag(int flag) {
            return (flags & flag) != 0;
        }
    }

    /** The four places for flows; a place is used again once its flow has gone. */
    private static final class FlowTable {
        private static final int PLACES = 4;

        private final Flow[] places = new Flow[PLACES];
        private int packetsHeard = 0;

        FlowTable() {
            for (int f = 0; f < PLACES; f++) {
                places[f] = new Flow();
            }
        }

        /** The flow in place f, null if there is none. */
        Flow at(int f) {
            return f >= 0 && f < PLACES && places[f].isLive() ? places[f] : null;
        }

        /** The flow that the packet belongs to, null if there is none. */
        Flow of(Packet packet) {
            for (int f = 0; f < PLACES; f++) {
                Flow asked = at(f);
                if (asked != null && asked.wayOf(packet) != NONE) {
                    return asked;
                }
            }
            return null;
        }

        Flow open(Packet packet) {
            Flow chosen = places[0];
            for (int f = 1; f < PLACES && chosen.isLive(); f++) {
                if (!places[f].isLive() || places[f].heardAt < chosen.heardAt) {
                    chosen = places[f];
                }
            }
            chosen.open(packet);
            return chosen;
        }

        void hear(Flow heard) {
            packetsHeard++;
            heard.heardAt = packetsHeard;
        }

        int heardAfter(Flow asked) {
            int later = 0;
            for (int f = 0; f < PLACES; f++) {
                Flow other = at(f);
                if (other != null && other.heardAt > asked.heardAt) {
                    later++;
                }
            }
            return later;
        }
    }

    /** A client, a server, and what went between them. */
    private static final class Flow {
        int clientHost = 0;
        int clientPort = 0;
        int serverHost = 0;
        int serverPort = 0;
        int heardAt = 0;
        private final Stream toServer = new Stream();
        private final Stream toClient = new Stream();
        private boolean live = false;

        boolean isLive() {
            return live;
        }

        void open(Packet packet) {
            live = true;
            clientHost = packet.fromHost;
            clientPort = packet.fromPort;
            serverHost = packet.toHost;
            serverPort = packet.toPort;
            toServer.reset();
            toClient.reset();
        }

        void free() {
            live = false;
        }

        void freeIfBothEnded() {
            if (toServer.hasEnded() && toClient.hasEnded()) {
                free();
            }
        }

        /** The stream that the packet is on, NONE if its ends are not those of this flow. */
        int wayOf(Packet packet) {
            boolean fromClient = isClient(packet.fromHost, packet.fromPort);
            if (fromClient && isServer(packet.toHost, packet.toPort)) {
                return 0;
            }
            boolean fromServer = isServer(packet.fromHost, packet.fromPort);
            if (fromServer && isClient(packet.toHost, packet.toPort)) {
                return 1;
            }
            return NONE;
        }

        Stream streamOf(int way) {
            if (way == 0) {
                return toServer;
            }
            return way == 1 ? toClient : null;
        }

        private boolean isClient(int host, int port) {
            return clientHost == host && clientPort == port;
        }

        private boolean isServer(int host, int port) {
            return serverHost == host && serverPort == port;
        }
    }

    /** The bytes that go one way in a flow: those in order, and those that wait for others. */
    private static final class Stream {
        private final int[] text = new int[TEXT_LIMIT];
        // The window has 32 numbers, so the lowest five bits of a number are a place of its own.
        private final int[] held = new int[WINDOW];
        private int textSize = 0;
        private int heldSize = 0;
        private int next = 0;
        private int raisedRules = 0;
        private boolean begun = false;
        private boolean ended = false;

        Stream() {
            emptyWindow();
        }

        void reset() {
            emptyWindow();
            textSize = 0;
            next = 0;
            raisedRules = 0;
            begun = false;
            ended = false;
        }

        void begin(int number) {
            if (!begun) {
                begun = true;
                next = number;
            }
        }

        void hold(int number, int value, boolean lastStays) {
            int distance = number - next;
            if (distance < 0 || distance >= WINDOW) {
                return;
            }
            int place = placeOf(number);
            if (held[place] == NONE) {
                held[place] = value;
                heldSize++;
            } else if (lastStays) {
                held[place] = value;
            }
        }

        boolean isNextHeld() {
            return held[placeOf(next)] != NONE;
        }

        /** Moves on by the byte held at the next number; whether the text has grown by it. */
        boolean takeNext() {
            int place = placeOf(next);
            boolean grows = textSize < TEXT_LIMIT;
            if (grows) {
                text[textSize] = held[place];
                textSize++;
            }
            held[place] = NONE;
            heldSize--;
            next++;
            return grows;
        }

        void end() {
            ended = true;
        }

        boolean hasEnded() {
            return ended;
        }

        int size() {
            return textSize;
        }

        int next() {
            return next;
        }

        int heldCount() {
            return heldSize;
        }

        int byteAt(int k) {
            return k >= 0 && k < textSize ? text[k] : NONE;
        }

        boolean hasRaised(int rule) {
            return (raisedRules & (1 << rule)) != 0;
        }

        void setRaised(int rule) {
            raisedRules |= 1 << rule;
        }

        private void emptyWindow() {
            for (int place = 0; place < WINDOW; place++) {
                held[place] = NONE;
            }
            heldSize = 0;
        }

        private static int placeOf(int number) {
            return number & (WINDOW - 1);
        }
    }

    /** The streams and ports that a rule is for, and its options. */
    private static final class Rule {
        private static final int BOTH_WAYS = 2;
        private static final int ANY_PORT = 0;

        private final int way;
        private final int port;
        private final Option[] options = new Option[OPTION_LIMIT];
        private int count = 0;

        Rule(int way, int port) {
            this.way = way;
            this.port = port;
        }

        int size() {
            return count;
        }

        void add(Option added) {
            if (count < OPTION_LIMIT) {
                options[count] = added;
                count++;
            }
        }

        /** Option i, null if there is none. */
        Option at(int i) {
            return i >= 0 && i < count ? options[i] : null;
        }

        boolean isFor(int streamWay, int serverPort) {
            boolean wayFits = way == BOTH_WAYS || way == streamWay;
            return wayFits && (port == ANY_PORT || port == serverPort);
        }
    }

    /** A content, and how far from its base it may stand. */
    private static final class Option {
        final boolean not;
        final boolean relative;
        final int least;
        final int most;
        final int size;
        private final long content;
        private final boolean anyCase;

        Option(int size, long content, int marks, int least, int span) {
            this.size = size;
            this.content = content;
            this.anyCase = (marks & 1) != 0;
            this.not = (marks & 2) != 0;
            this.relative = (marks & 4) != 0;
            this.least = least;
            // No place of a text is further from another one than the longest text goes.
            this.most = span == 0 ? TEXT_LIMIT : least + span - size;
        }

        boolean standsAt(int place, Stream stream) {
            if (place + size > stream.size()) {
                return false;
            }
            for (int i = 0; i < size; i++) {
                int wanted = (int) (content >>> (8 * (size - 1 - i))) & 255;
                if (folded(stream.byteAt(place + i)) != folded(wanted)) {
                    return false;
                }
            }
            return true;
        }

        private int folded(int value) {
            return anyCase && value >= 'A' && value <= 'Z' ? value - 'A' + 'a' : value;
        }
    }

    /**
     * Whether a rule holds on a text. What an option asks depends on the options before it by its
     * base alone; so the bases that are left, over all choices of places, are all there is to know.
     */
    private static final class Search {
        private final Marks bases = new Marks();
        private final Marks found = new Marks();

        boolean holds(Rule rule, Stream stream) {
            int end = stream.size();
            bases.markStartOnly(end);
            boolean isLeft = rule.size() > 0;
            for (int i = 0; i < rule.size() && isLeft; i++) {
                Option asked = rule.at(i);
                if (asked == null) {
                    return false;
                }
                find(asked, stream);
                if (asked.not) {
                    dropBases(asked, end);
                } else {
                    moveBases(asked, end);
                }
                bases.settle(end);
                isLeft = bases.isAnyIn(0, end);
            }
            return isLeft;
        }

        private void find(Option asked, Stream stream) {
            int end = stream.size();
            for (int place = 0; place <= end; place++) {
                found.set(place, asked.standsAt(place, stream));
            }
            found.settle(end);
        }

        private void dropBases(Option asked, int end) {
            for (int place = 0; place <= end; place++) {
                int base = asked.relative ? place : 0;
                if (found.isAnyIn(base + asked.least, base + asked.most)) {
                    bases.set(place, false);
                }
            }
        }

        private void moveBases(Option asked, int end) {
            if (!asked.relative) {
                bases.markStartOnly(end);
            }
            for (int behind = 0; behind <= end; behind++) {
                int place = behind - asked.size;
                boolean isReached = found.has(place)
                        && bases.isAnyIn(place - asked.most, place - asked.least);
                bases.set(behind, isReached);
            }
        }
    }

    /**
     * Marks on the places of a text, from 0 to its end. What stretches have is asked of the marks
     * as they were settled last, so that new ones can be set while the old ones are asked for.
     */
    private static final class Marks {
        private final boolean[] marked = new boolean[TEXT_LIMIT + 1];
        // The last settled mark at or before each place, NONE if there is none.
        private final int[] latest = new int[TEXT_LIMIT + 1];
        private int top = 0;

        void markStartOnly(int end) {
            for (int place = 0; place <= end; place++) {
                set(place, place == 0);
            }
            settle(end);
        }

        void set(int place, boolean mark) {
            if (place >= 0 && place <= TEXT_LIMIT) {
                marked[place] = mark;
            }
        }

        boolean has(int place) {
            return place >= 0 && place <= TEXT_LIMIT && marked[place];
        }

        void settle(int end) {
            int last = NONE;
            top = end <= TEXT_LIMIT ? end : TEXT_LIMIT;
            for (int place = 0; place <= top; place++) {
                if (marked[place]) {
                    last = place;
                }
                latest[place] = last;
            }
        }

        boolean isAnyIn(int from, int to) {
            int high = Math.min(to, top);
            return high >= 0 && latest[high] >= Math.max(from, 0);
        }
    }

    /** How many alerts there were, and the latest of them. */
    private static final class AlertLog {
        private static final int KEPT = 24;
        private static final int WIDTH = 4;

        private final int[] rows = new int[KEPT * WIDTH];
        private int total = 0;
        private int newest = NONE;

        int total() {
            return total;
        }

        void add(int rule, int clientPort, int way, int textSize) {
            newest = newest + 1 < KEPT ? newest + 1 : 0;
            total++;
            int start = newest * WIDTH;
            rows[start] = rule;
            rows[start + 1] = clientPort;
            rows[start + 2] = way;
            rows[start + 3] = textSize;
        }

        int read(int k, int w) {
            boolean kept = k >= 0 && k < Math.min(total, KEPT);
            if (!kept || w < 0 || w >= WIDTH) {
                return NONE;
            }
            int row = newest >= k ? newest - k : newest - k + KEPT;
            return rows[row * WIDTH + w];
        }
    }
}
