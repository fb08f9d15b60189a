/** Promise 5: the four streams, against published ones and the plain model, and what is refused. */
public final class BitsTest {
    private static final int[] TOO_SMALL = {0, -1, -2, -63, -64, -192, Integer.MIN_VALUE, Integer.MIN_VALUE + 1};
    private static final int[] TOO_LARGE = {65, 66, 127, 128, 257, 320, Integer.MAX_VALUE};

    private final Check check = new Check();

    public static void main(String[] args) {
        BitsTest test = new BitsTest();
        test.publishedRings();
        test.publishedRegisters();
        test.publishedThatStop();
        test.publishedExchanges();
        test.everyWidth();
        test.everyBitOfKeyAndStart();
        test.firstIsHighest();
        test.oneBit();
        test.sixtyFourBits();
        test.noMachine();
        test.tooSmall();
        test.tooLarge();
        test.zeroThatIsNoRefusal();
        test.check.end();
    }

    private void publishedRings() {
        check.says("0 THREE RINGS");
        String zero = "00".repeat(10);
        check.due("Trivium, key 0", Feed.turned(Feed.hexOf(Feed.begun(0, zero, zero), 16)),
                "fbe0bf265859051b517a2e4e239fc97f");
        check.due("Trivium, key 80", Feed.turned(Feed.hexOf(Feed.begun(0, "00".repeat(9) + "80", zero), 16)),
                "38eb86ff730d7a9caf8df13a4420540d");
    }

    private void publishedRegisters() {
        check.says("1 TWO REGISTERS");
        check.due("Grain-128a, key 0", Feed.hexOf(Feed.begun(1, "00".repeat(16), "00".repeat(12)), 40),
                "c0207f221660650b6a952ae26586136fa0904140c8621cfe8660c0dec0969e9436f4ace92cf1ebb7");
        check.due("Grain-128a", Feed.hexOf(
                Feed.begun(1, "0123456789abcdef123456789abcdef0", "0123456789abcdef12345678"), 40),
                "f88720c13f46e6a43c07eeed89161a4dd73bd6b8be8b6b116879714ebb630e0a4c12f0399412982c");
    }

    private void publishedThatStop() {
        check.says("2 THREE THAT STOP");
        String start = String.format("%06x", Integer.reverse(0x134) >>> 10);
        BitStreams x = Feed.begun(2, Feed.turned("1223456789abcdef"), start);
        check.due("A5/1, there", Feed.hexOf(x, 14), "534eaa582fe8151ab6e1855a728c");
        check.due("A5/1, there, the last bits", x.bits(2), 0);
        check.due("A5/1, back", Feed.hexOf(x, 14), "24fd35a35d5fb6526d32f906df1a");
        check.due("A5/1, back, the last bits", x.bits(2), 3);
    }

    private void publishedExchanges() {
        check.says("3 EXCHANGES");
        BitStreams x = Feed.begun(3, "0102030405", "");
        check.due("RC4, key of 5", Feed.hexOf(x, 16), "b2396305f03dc027ccc3524a0a1118a8");
        x.skip(8 * (240 - 16));
        check.due("RC4, key of 5, from 240 on", Feed.hexOf(x, 16), "28cb1132c96ce286421dcaadb8b69eae");
        String longest = "0102030405060708090a0b0c0d0e0f101112131415161718191a1b1c1d1e1f20";
        check.due("RC4, key of 32", Feed.hexOf(Feed.begun(3, longest, ""), 16),
                "eaa6bd25880bf93d3f5d1e4ca2611d91");
    }

    private void everyWidth() {
        check.says("The next n bits");
        for (int machine = 0; machine < 4; machine++) {
            BitStreams x = Feed.begun(machine);
            PlainModel model = Feed.modelBegun(machine);
            int used = 0;
            for (int n = 1; n <= 64; n++) {
                check.due("machine " + machine + ": bits(" + n + ")", x.bits(n), model.bits(n));
                used += n;
                check.counts("machine " + machine, x, 0, 0, machine, used);
            }
        }
    }

    private void everyBitOfKeyAndStart() {
        check.says("their BITS are those of the first byte from its highest on, then of the second, and so on");
        for (int machine = 0; machine < 4; machine++) {
            int[] key = Feed.bytes(Feed.KEYS[machine]);
            int[] start = Feed.bytes(Feed.STARTS[machine]);
            for (int flipped = 0; flipped < 8 * (key.length + start.length); flipped++) {
                BitStreams x = new BitStreams();
                PlainModel model = new PlainModel();
                for (int i = 0; i < key.length + start.length; i++) {
                    int flip = flipped / 8 == i ? 128 >> flipped % 8 : 0;
                    if (i < key.length) {
                        x.key(key[i] ^ flip, 1);
                        model.key(key[i] ^ flip, 1);
                    } else {
                        x.start(start[i - key.length] ^ flip, 1);
                        model.start(start[i - key.length] ^ flip, 1);
                    }
                }
                x.begin(machine);
                model.begin(machine);
                check.due("machine " + machine + ", bit " + flipped, x.bits(64), model.bits(64));
            }
        }
    }

    private void firstIsHighest() {
        check.says("the first one the highest of them");
        for (int machine = 0; machine < 4; machine++) {
            for (int first = 1; first <= 63; first++) {
                long whole = Feed.begun(machine).bits(64);
                BitStreams parts = Feed.begun(machine);
                long high = parts.bits(first);
                long low = parts.bits(64 - first);
                check.due("machine " + machine + ": bits(" + first + ")", high, whole >>> 64 - first);
                check.due("machine " + machine + ": behind it", low, whole << first >>> first);
            }
        }
    }

    private void oneBit() {
        check.says("n is not 1 .. 64 [1 is]");
        for (int machine = 0; machine < 4; machine++) {
            BitStreams x = Feed.begun(machine);
            long whole = Feed.modelBegun(machine).bits(64);
            for (int i = 63; i >= 0; i--) {
                check.due("machine " + machine + ": bits(1)", x.bits(1), whole >>> i & 1);
            }
            check.due("count(3)", x.count(3), 64);
        }
    }

    private void sixtyFourBits() {
        check.says("n is not 1 .. 64 [64 is]");
        check.due("the highest of 64 is the sign", Feed.begun(3, "0102030405", "").bits(64), 0xb2396305f03dc027L);
        for (int machine = 0; machine < 4; machine++) {
            BitStreams x = Feed.begun(machine);
            PlainModel model = Feed.modelBegun(machine);
            for (int i = 0; i < 100; i++) {
                check.due("machine " + machine + ": bits(64)", x.bits(64), model.bits(64));
                check.due("count(3)", x.count(3), 64 * (i + 1));
            }
        }
    }

    private void noMachine() {
        check.says("0 if no machine has begun");
        for (int machine = 0; machine < 4; machine++) {
            BitStreams x = new BitStreams();
            Feed.key(x, Feed.KEYS[machine]);
            Feed.start(x, Feed.STARTS[machine]);
            for (int n : new int[] {1, 2, 63, 64, 0, -1, 65}) {
                check.due("bits(" + n + ")", x.bits(n), 0);
            }
            check.counts("bits", x, Feed.KEYS[machine].length() / 2, Feed.STARTS[machine].length() / 2, -1, 0);
            check.due("begin(" + machine + ")", x.begin(machine), true);
            check.due("no bit is gone", x.bits(64), Feed.modelBegun(machine).bits(64));
        }
    }

    private void tooSmall() {
        check.says("0 if n is not 1 .. 64 [too small]");
        refused(TOO_SMALL);
    }

    private void tooLarge() {
        check.says("0 if n is not 1 .. 64 [too large]");
        refused(TOO_LARGE);
    }

    private void refused(int[] widths) {
        for (int machine = 0; machine < 4; machine++) {
            for (int n : widths) {
                BitStreams x = Feed.begun(machine);
                PlainModel model = Feed.modelBegun(machine);
                x.bits(5);
                model.bits(5);
                check.due("bits(" + n + ")", x.bits(n), 0);
                check.counts("bits(" + n + ")", x, 0, 0, machine, 5);
                check.due("the stream goes on", x.bits(64), model.bits(64));
            }
        }
    }

    private void zeroThatIsNoRefusal() {
        check.says("The next n bits [all 0: empty registers that go stay empty]");
        BitStreams x = Feed.begun(2, "00".repeat(8), "000000");
        for (int i = 1; i <= 5; i++) {
            check.due("bits(64)", x.bits(64), 0);
            check.counts("bits(64)", x, 0, 0, 2, 64 * i);
        }
    }
}
