/** Four machines that make streams of bits out of a key and a start. */
public final class BitStreams {
    private static final int NONE = -1;
    private static final int LONGEST_KEY = 32;
    private static final int LONGEST_START = 12;
    private static final int LONGEST_SKIP = 5000;
    private static final int BITS_OF_LONG = 64;
    private static final int BYTES_OF_LONG = 8;

    private final Bytes keyBytes;
    private final Bytes startBytes;
    private final Machine[] machines;
    private Machine running;
    private int runningNumber;
    private int used;

    public BitStreams() {
        keyBytes = new Bytes(LONGEST_KEY);
        startBytes = new Bytes(LONGEST_START);
        machines = new Machine[] {new ThreeRings(), new TwoRegisters(), new ThreeThatStop(), new Exchanges()};
        running = null;
        runningNumber = NONE;
        used = 0;
    }

    public boolean key(long v, int n) {
        return keyBytes.append(v, n);
    }

    public boolean start(long v, int n) {
        return startBytes.append(v, n);
    }

    public boolean begin(int machine) {
        if (machine < 0 || machine >= machines.length) {
            return false;
        }
        Machine chosen = machines[machine];
        if (!chosen.takes(keyBytes.size(), startBytes.size())) {
            return false;
        }
        chosen.load(keyBytes, startBytes);
        keyBytes.clear();
        startBytes.clear();
        running = chosen;
        runningNumber = machine;
        used = 0;
        return true;
    }

    public long bits(int n) {
        return mix(0L, n);
    }

    public boolean skip(int n) {
        if (running == null || n < 0 || n > LONGEST_SKIP) {
            return false;
        }
        for (int i = 0; i < n; i++) {
            running.nextBit();
        }
        used += n;
        return true;
    }

    public long mix(long v, int n) {
        if (running == null || n < 1 || n > BITS_OF_LONG) {
            return 0L;
        }
        long stream = 0L;
        for (int i = 0; i < n; i++) {
            stream = stream << 1 | running.nextBit();
        }
        used += n;
        long lowest = -1L >>> (BITS_OF_LONG - n);
        return (v & lowest) ^ stream;
    }

    public int count(int what) {
        switch (what) {
            case 0:
                return keyBytes.size();
            case 1:
                return startBytes.size();
            case 2:
                return runningNumber;
            case 3:
                return used;
            default:
                return -1;
        }
    }

    /** A row of bytes that grows up to a limit; its bits count from the first byte's highest on. */
    private static final class Bytes {
        private final int[] held;
        private int size;

        Bytes(int limit) {
            held = new int[limit];
            size = 0;
        }

        boolean append(long v, int n) {
            if (n < 1 || n > BYTES_OF_LONG || size + n > held.length) {
                return false;
            }
            for (int left = n - 1; left >= 0; left--) {
                held[size] = (int) (v >>> 8 * left) & 255;
                size++;
            }
            return true;
        }

        void clear() {
            size = 0;
        }

        int size() {
            return size;
        }

        int at(int place) {
            return place >= 0 && place < size ? held[place] : 0;
        }

        int bit(int place) {
            return at(place >> 3) >> (7 - (place & 7)) & 1;
        }
    }

    /** 128 cells of one bit, 0 .. 127. A shorter register uses the first ones and never reads the others. */
    private static final class Cells {
        private long low;
        private long high;

        Cells() {
            low = 0L;
            high = 0L;
        }

        void clear() {
            low = 0L;
            high = 0L;
        }

        // Java shifts a long by the distance modulo 64, so the upper half needs no subtraction.
        int at(int place) {
            return (int) ((place < BITS_OF_LONG ? low : high) >>> place) & 1;
        }

        void add(int place, int bit) {
            if (place < BITS_OF_LONG) {
                low ^= (long) bit << place;
            } else {
                high ^= (long) bit << place;
            }
        }

        void moveUp(int first) {
            high = high << 1 | low >>> 63;
            low = low << 1 | first;
        }

        void moveDown(int last) {
            low = low >>> 1 | high << 63;
            high = high >>> 1 | (long) last << 63;
        }
    }

    private abstract static class Machine {
        abstract boolean takes(int keySize, int startSize);

        abstract void load(Bytes key, Bytes start);

        abstract int nextBit();
    }

    /** Machine 0. The names of the cells are the document's, s1 .. s288, less the first one of their ring. */
    private static final class ThreeRings extends Machine {
        private static final int A = 1;
        private static final int B = 94;
        private static final int C = 178;
        private static final int LOST_STEPS = 1152;

        private final Cells a;
        private final Cells b;
        private final Cells c;

        ThreeRings() {
            a = new Cells();
            b = new Cells();
            c = new Cells();
        }

        boolean takes(int keySize, int startSize) {
            return keySize == 10 && startSize == 10;
        }

        void load(Bytes key, Bytes start) {
            a.clear();
            b.clear();
            c.clear();
            for (int i = 0; i < 80; i++) {
                a.add(i, key.bit(i));
                b.add(i, start.bit(i));
            }
            c.add(286 - C, 1);
            c.add(287 - C, 1);
            c.add(288 - C, 1);
            for (int i = 0; i < LOST_STEPS; i++) {
                nextBit();
            }
        }

        int nextBit() {
            int t1 = a.at(66 - A) ^ a.at(93 - A);
            int t2 = b.at(162 - B) ^ b.at(177 - B);
            int t3 = c.at(243 - C) ^ c.at(288 - C);
            int given = t1 ^ t2 ^ t3;
            t1 ^= a.at(91 - A) & a.at(92 - A) ^ b.at(171 - B);
            t2 ^= b.at(175 - B) & b.at(176 - B) ^ c.at(264 - C);
            t3 ^= c.at(286 - C) & c.at(287 - C) ^ a.at(69 - A);
            a.moveUp(t3);
            b.moveUp(t1);
            c.moveUp(t2);
            return given;
        }
    }

    /** Machine 1. */
    private static final class TwoRegisters extends Machine {
        private static final int FED_BACK_STEPS = 256;

        private final Cells b;
        private final Cells s;

        TwoRegisters() {
            b = new Cells();
            s = new Cells();
        }

        boolean takes(int keySize, int startSize) {
            return keySize == 16 && startSize == 12;
        }

        void load(Bytes key, Bytes start) {
            b.clear();
            s.clear();
            for (int i = 0; i < 128; i++) {
                b.add(i, key.bit(i));
            }
            for (int i = 0; i < 96; i++) {
                s.add(i, start.bit(i));
            }
            for (int i = 96; i < 127; i++) {
                s.add(i, 1);
            }
            for (int i = 0; i < FED_BACK_STEPS; i++) {
                move(output());
            }
        }

        int nextBit() {
            int given = output();
            move(0);
            return given;
        }

        private int output() {
            return b.at(12) & s.at(8) ^ s.at(13) & s.at(20) ^ b.at(95) & s.at(42) ^ s.at(60) & s.at(79)
                    ^ b.at(12) & b.at(95) & s.at(94)
                    ^ s.at(93) ^ b.at(2) ^ b.at(15) ^ b.at(36) ^ b.at(45) ^ b.at(64) ^ b.at(73) ^ b.at(89);
        }

        private void move(int addedToBoth) {
            int newOfS = newBitOfS() ^ addedToBoth;
            int newOfB = newBitOfB() ^ addedToBoth;
            s.moveDown(newOfS);
            b.moveDown(newOfB);
        }

        private int newBitOfS() {
            return s.at(0) ^ s.at(7) ^ s.at(38) ^ s.at(70) ^ s.at(81) ^ s.at(96);
        }

        private int newBitOfB() {
            return s.at(0) ^ b.at(0) ^ b.at(26) ^ b.at(56) ^ b.at(91) ^ b.at(96)
                    ^ b.at(3) & b.at(67) ^ b.at(11) & b.at(13) ^ b.at(17) & b.at(18) ^ b.at(27) & b.at(59)
                    ^ b.at(40) & b.at(48) ^ b.at(61) & b.at(65) ^ b.at(68) & b.at(84)
                    ^ b.at(88) & b.at(92) & b.at(93) & b.at(95)
                    ^ b.at(22) & b.at(24) & b.at(25)
                    ^ b.at(70) & b.at(78) & b.at(82);
        }
    }

    /** Machine 2. */
    private static final class ThreeThatStop extends Machine {
        private static final int KEY_BITS = 64;
        private static final int START_BITS = 24;
        private static final int UNUSED_START_BITS = 2;
        private static final int LOST_STEPS = 100;

        private final Cells x;
        private final Cells y;
        private final Cells z;

        ThreeThatStop() {
            x = new Cells();
            y = new Cells();
            z = new Cells();
        }

        boolean takes(int keySize, int startSize) {
            return keySize == 8 && startSize == 3;
        }

        void load(Bytes key, Bytes start) {
            x.clear();
            y.clear();
            z.clear();
            for (int i = 0; i < KEY_BITS; i++) {
                feed(key.bit(i));
            }
            for (int i = UNUSED_START_BITS; i < START_BITS; i++) {
                feed(start.bit(i));
            }
            for (int i = 0; i < LOST_STEPS; i++) {
                nextBit();
            }
        }

        int nextBit() {
            int ofX = x.at(8);
            int ofY = y.at(10);
            int ofZ = z.at(10);
            int alike = ofX + ofY + ofZ >= 2 ? 1 : 0;
            if (ofX == alike) {
                goX();
            }
            if (ofY == alike) {
                goY();
            }
            if (ofZ == alike) {
                goZ();
            }
            return x.at(18) ^ y.at(21) ^ z.at(22);
        }

        private void feed(int bit) {
            goX();
            goY();
            goZ();
            x.add(0, bit);
            y.add(0, bit);
            z.add(0, bit);
        }

        private void goX() {
            x.moveUp(x.at(13) ^ x.at(16) ^ x.at(17) ^ x.at(18));
        }

        private void goY() {
            y.moveUp(y.at(20) ^ y.at(21));
        }

        private void goZ() {
            z.moveUp(z.at(7) ^ z.at(20) ^ z.at(21) ^ z.at(22));
        }
    }

    /** Machine 3. */
    private static final class Exchanges extends Machine {
        private static final int PLACES = 256;
        private static final int LAST = PLACES - 1;

        private final int[] row;
        private int i;
        private int j;
        private int givenByte;
        private int bitsLeft;

        Exchanges() {
            row = new int[PLACES];
            i = 0;
            j = 0;
            givenByte = 0;
            bitsLeft = 0;
        }

        boolean takes(int keySize, int startSize) {
            return keySize >= 5 && keySize <= LONGEST_KEY && startSize == 0;
        }

        void load(Bytes key, Bytes start) {
            for (int place = 0; place < PLACES; place++) {
                row[place] = place;
            }
            int other = 0;
            int keyPlace = 0;
            for (int place = 0; place < PLACES; place++) {
                other = other + row[place] + key.at(keyPlace) & LAST;
                exchange(place, other);
                keyPlace = keyPlace + 1 < key.size() ? keyPlace + 1 : 0;
            }
            i = 0;
            j = 0;
            bitsLeft = 0;
        }

        // A byte lasts for eight bits, and calls may end in the midst of it.
        int nextBit() {
            if (bitsLeft == 0) {
                givenByte = nextByte();
                bitsLeft = 8;
            }
            bitsLeft--;
            return givenByte >> bitsLeft & 1;
        }

        private int nextByte() {
            i = i + 1 & LAST;
            j = j + row[i] & LAST;
            exchange(i, j);
            return row[row[i] + row[j] & LAST];
        }

        private void exchange(int one, int other) {
            int held = row[one & LAST];
            row[one & LAST] = row[other & LAST];
            row[other & LAST] = held;
        }
    }
}
