/** Short ways to say what the tests say often. */
final class Talk {
    static final int FIN = 1;
    static final int SYN = 2;
    static final int RST = 4;
    static final int ACK = 16;
    static final int CLIENT_HOST = 10 << 24 | 1;
    static final int SERVER_HOST = 10 << 24 | 1 << 8 | 1;

    private Talk() {
    }

    /** Up to eight characters as the lowest bytes of a number, the first one highest. */
    static long bytes(String characters) {
        long number = 0;
        for (int i = 0; i < characters.length(); i++) {
            number = number << 8 | characters.charAt(i);
        }
        return number;
    }

    static int craft(StreamWatch x, int c, int way, int sequence, int flags, String data) {
        return x.craft(c, way, sequence, flags, data.length(), bytes(data));
    }

    static int send(StreamWatch x, int c, int way, int sequence, int flags, String data) {
        craft(x, c, way, sequence, flags, data);
        return x.watch();
    }

    /** All of a text on stream 0 of client 0, in packets of eight bytes. */
    static void sendAll(StreamWatch x, int sequence, String text) {
        for (int i = 0; i < text.length(); i += 8) {
            send(x, 0, 0, sequence + i, ACK, text.substring(i, Math.min(i + 8, text.length())));
        }
    }

    /** A watch with a flow of client 0, whose stream 0 has NEXT = 1. */
    static StreamWatch opened(int last) {
        StreamWatch x = new StreamWatch(last);
        Due.is("watch of SYN", send(x, 0, 0, 0, SYN, ""), 0);
        return x;
    }

    static int option(StreamWatch x, String content, int marks, int least, int span) {
        return x.option(content.length(), bytes(content), marks, least, span);
    }

    static String textOf(StreamWatch x, int f, int way) {
        StringBuilder all = new StringBuilder();
        int size = x.stream(f, way, 0);
        for (int k = 0; k < size; k++) {
            all.append((char) x.text(f, way, k));
        }
        return all.toString();
    }

    static String wireOf(StreamWatch x) {
        StringBuilder all = new StringBuilder();
        int size = x.wire(-1);
        for (int k = 0; k < size; k++) {
            all.append(x.wire(k)).append(' ');
        }
        return all.toString().trim();
    }

    /** All that can be asked of the streams, as one line. */
    static String streamOf(StreamWatch x, int f, int way) {
        return x.stream(f, way, 0) + " " + x.stream(f, way, 1) + " " + x.stream(f, way, 2) + " "
                + x.stream(f, way, 3);
    }

    /** The k-th latest alert as one line: rule, client's port, way, bytes of the text. */
    static String alertOf(StreamWatch x, int k) {
        return x.alert(k, 0) + " " + x.alert(k, 1) + " " + x.alert(k, 2) + " " + x.alert(k, 3);
    }
}
