/** Ways to hand rows of bytes, written in hex, to an object and to read its bits as hex. */
final class Feed {
    static final String[] KEYS = {
        "0123456789abcdef8081", "0123456789abcdeffedcba9876543210", "80123456789abcff", "0102030405"
    };
    static final String[] STARTS = {"fedcba98765432100f1e", "c0ffee0123456789abcdef81", "2f5a35", ""};

    private Feed() {
    }

    static void key(BitStreams x, String hex) {
        for (int value : bytes(hex)) {
            x.key(value, 1);
        }
    }

    static void start(BitStreams x, String hex) {
        for (int value : bytes(hex)) {
            x.start(value, 1);
        }
    }

    static BitStreams holding(int keySize, int startSize) {
        BitStreams x = new BitStreams();
        for (int i = 0; i < keySize; i++) {
            x.key(17 * i + 3, 1);
        }
        for (int i = 0; i < startSize; i++) {
            x.start(29 * i + 5, 1);
        }
        return x;
    }

    static BitStreams begun(int machine, String key, String start) {
        BitStreams x = new BitStreams();
        key(x, key);
        start(x, start);
        if (!x.begin(machine)) {
            throw new IllegalStateException("machine " + machine + " did not begin");
        }
        return x;
    }

    static BitStreams begun(int machine) {
        return begun(machine, KEYS[machine], STARTS[machine]);
    }

    static PlainModel modelBegun(int machine) {
        PlainModel model = new PlainModel();
        for (int value : bytes(KEYS[machine])) {
            model.key(value, 1);
        }
        for (int value : bytes(STARTS[machine])) {
            model.start(value, 1);
        }
        model.begin(machine);
        return model;
    }

    static int[] bytes(String hex) {
        int[] row = new int[hex.length() / 2];
        for (int i = 0; i < row.length; i++) {
            row[i] = Integer.parseInt(hex.substring(2 * i, 2 * i + 2), 16);
        }
        return row;
    }

    static String hexOf(BitStreams x, int bytes) {
        StringBuilder text = new StringBuilder();
        for (int i = 0; i < bytes; i++) {
            text.append(String.format("%02x", x.bits(8)));
        }
        return text.toString();
    }

    /** Turns the bits of each byte round, for published streams that count from the lowest bit on. */
    static String turned(String hex) {
        StringBuilder text = new StringBuilder();
        for (int value : bytes(hex)) {
            text.append(String.format("%02x", Integer.reverse(value) >>> 24));
        }
        return text.toString();
    }
}
