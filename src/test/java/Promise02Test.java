/** Promise 2: craft. */
public final class Promise02Test {
    public static void main(String[] args) {
        bytesOfPackets();
        dataAreTheLowestBytes();
        flagsAreTakenOfSixBits();
        wireIsWrittenAnew();
        wrongInputs();
        allAreRight();
        Due.end();
    }

    private static void bytesOfPackets() {
        StreamWatch x = new StreamWatch(0);
        Due.is("craft", x.craft(0, 0, 100, 2, 0, 0), 40);
        Due.is("wire", Talk.wireOf(x), "69 0 0 40 0 0 0 0 0 6 165 207 10 0 0 1 10 0 1 1 "
                + "3 232 0 80 0 0 0 100 0 0 0 0 80 2 0 0 150 69 0 0");
        Due.is("craft", x.craft(7, 1, 0x81828384, 18, 3, 0x616263), 43);
        Due.is("wire", Talk.wireOf(x), "69 0 0 43 0 0 0 0 0 6 165 197 10 0 1 1 10 0 0 8 "
                + "0 80 3 239 129 130 131 132 0 0 0 0 80 18 0 0 205 30 0 0 97 98 99");
    }

    private static void dataAreTheLowestBytes() {
        StreamWatch x = new StreamWatch(0);
        Due.is("craft", x.craft(0, 0, 0, 0, 2, 0x1122334455667788L), 42);
        Due.is("wire(40)", x.wire(40), 0x77);
        Due.is("wire(41)", x.wire(41), 0x88);
        Due.is("wire(42)", x.wire(42), -1);
        Due.is("craft", x.craft(0, 0, 0, 0, 8, 0xF122334455667788L), 48);
        Due.is("wire(40)", x.wire(40), 0xF1);
        Due.is("wire(47)", x.wire(47), 0x88);
        Due.is("craft", x.craft(0, 0, 0, 0, 0, -1), 40);
        Due.is("wire(40)", x.wire(40), -1);
    }

    private static void flagsAreTakenOfSixBits() {
        StreamWatch x = new StreamWatch(0);
        x.craft(0, 0, 0, -1, 0, 0);
        Due.is("wire(33)", x.wire(33), 63);
        x.craft(0, 0, 0, 64 + 128 + 256 + 9, 0, 0);
        Due.is("wire(33)", x.wire(33), 9);
        Due.is("wire(32)", x.wire(32), 80);
    }

    private static void wireIsWrittenAnew() {
        StreamWatch x = new StreamWatch(0);
        x.craft(0, 0, 0, 0, 8, -1);
        for (int k = 0; k < 48; k++) {
            x.alter(k, 255);
        }
        x.craft(0, 0, 100, 2, 0, 0);
        Due.is("wire", Talk.wireOf(x), "69 0 0 40 0 0 0 0 0 6 165 207 10 0 0 1 10 0 1 1 "
                + "3 232 0 80 0 0 0 100 0 0 0 0 80 2 0 0 150 69 0 0");
    }

    private static void wrongInputs() {
        StreamWatch x = new StreamWatch(0);
        x.put(3, 0x010203);
        int[][] wrong = {{-1, 0, 0}, {8, 0, 0}, {Integer.MIN_VALUE, 0, 0}, {0, -1, 0}, {0, 2, 0},
            {0, 0, -1}, {0, 0, 9}, {0, 0, Integer.MAX_VALUE}};
        for (int[] w : wrong) {
            Due.isThrown("craft(" + w[0] + ", " + w[1] + ", .., " + w[2] + ")",
                    IllegalArgumentException.class, () -> x.craft(w[0], w[1], 0, 2, w[2], 0));
            Due.is("wire after a throw", Talk.wireOf(x), "1 2 3");
        }
    }

    private static void allAreRight() {
        for (int c = 0; c < 8; c++) {
            for (int n = 0; n <= 8; n++) {
                StreamWatch x = new StreamWatch(0);
                Due.is("craft", x.craft(c, 0, -1, 2, n, 0xF1E2D3C4B5A69788L), 40 + n);
                Due.is("watch", x.watch(), 0);
                Due.is("client's host", x.flow(0, 0), Talk.CLIENT_HOST + c);
                Due.is("client's port", x.flow(0, 1), 1000 + c);
                Due.is("server's host", x.flow(0, 2), Talk.SERVER_HOST);
                Due.is("server's port", x.flow(0, 3), 80);
                Due.is("text", x.stream(0, 0, 0), n);
                Due.is("craft", x.craft(c, 1, 5, 16, n, -1), 40 + n);
                Due.is("watch", x.watch(), 0);
                Due.is("text", x.stream(0, 1, 0), n);
            }
        }
    }
}
