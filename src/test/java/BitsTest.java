/** Promise 5: the four streams, against published ones and the plain model, and what is refused. */
public final class BitsTest {
    public static void main(String[] args) {
        Check check = new Check();
        publishedRings(check);
        publishedRegisters(check);
        publishedThatStop(check);
        publishedExchanges(check);
        everyWidth(check);
        everyBitOfKeyAndStart(check);
        refusals(check);
        check.end();
    }

    private static void publishedRings(Check check) {
        String zero = "00".repeat(10);
        check.due("Trivium, key 0", Feed.turned(Feed.hexOf(Feed.begun(0, zero, zero), 16)),
                "fbe0bf265859051b517a2e4e239fc97f");
        check.due("Trivium, key 80", Feed.turned(Feed.hexOf(Feed.begun(0, "00".repeat(9) + "80", zero), 16)),
                "38eb86ff730d7a9caf8df13a4420540d");
    }

    private static void publishedRegisters(Check check) {
        check.due("Grain-128a, key 0", Feed.hexOf(Feed.begun(1, "00".repeat(16), "00".repeat(12)), 40),
                "c0207f221660650b6a952ae26586136fa0904140c8621cfe8660c0dec0969e9436f4ace92cf1ebb7");
        check.due("Grain-128a", Feed.hexOf(
                Feed.begun(1, "0123456789abcdef123456789abcdef0", "0123456789abcdef12345678"), 40),
                "f88720c13f46e6a43c07eeed89161a4dd73bd6b8be8b6b116879714ebb630e0a4c12f0399412982c");
    }

    private static void publishedThatStop(Check check) {
        String start = String.format("%06x", Integer.reverse(0x134) >>> 10);
        BitStreams x = Feed.begun(2, Feed.turned("1223456789abcdef"), start);
        check.due("A5/1, there", Feed.hexOf(x, 14), "534eaa582fe8151ab6e1855a728c");
        check.due("A5/1, there, the last bits", x.bits(2), 0);
        check.due("A5/1, back", Feed.hexOf(x, 14), "24fd35a35d5fb6526d32f906df1a");
        check.due("A5/1, back, the last bits", x.bits(2), 3);
    }

    private static void publishedExchanges(Check check) {
        BitStreams x = Feed.begun(3, "0102030405", "");
        check.due("RC4, key of 5", Feed.hexOf(x, 16), "b2396305f03dc027ccc3524a0a1118a8");
        x.skip(8 * (240 - 16));
        check.due("RC4, key of 5, from 240 on", Feed.hexOf(x, 16), "28cb1132c96ce286421dcaadb8b69eae");
        String longest = "0102030405060708090a0b0c0d0e0f101112131415161718191a1b1c1d1e1f20";
        check.due("RC4, key of 32", Feed.hexOf(Feed.begun(3, longest, ""), 16),
                "eaa6bd25880bf93d3f5d1e4ca2611d91");
    }

    private static void everyWidth(Check check) {
        for (int machine = 0; machine < 4; machine++) {
            BitStreams x = Feed.begun(machine);
            PlainModel model = Feed.modelBegun(machine);
            int used = 0;
            for (int n = 1; n <= 64; n++) {
                check.due("machine " + machine + ": bits(" + n + ")", x.bits(n), model.bits(n));
                used += n;
                check.counts("machine " + machine, x, 0, 0, machine, used);
            }
        }
    }

    private static void everyBitOfKeyAndStart(Check check) {
        for (int machine = 0; machine < 4; machine++) {
            int[] key = Feed.bytes(Feed.KEYS[machine]);
            int[] start = Feed.bytes(Feed.STARTS[machine]);
            for (int flipped = 0; flipped < 8 * (key.length + start.length); flipped++) {
                BitStreams x = new BitStreams();
                PlainModel model = new PlainModel();
                for (int i = 0; i < key.length + start.length; i++) {
                    int flip = flipped / 8 == i ? 128 >> flipped % 8 : 0;
                    if (i < key.length) {
                        x.key(key[i] ^ flip, 1);
                        model.key(key[i] ^ flip, 1);
                    } else {
                        x.start(start[i - key.length] ^ flip, 1);
                        model.start(start[i - key.length] ^ flip, 1);
                    }
                }
                x.begin(machine);
                model.begin(machine);
                check.due("machine " + machine + ", bit " + flipped, x.bits(64), model.bits(64));
            }
        }
    }

    private static void refusals(Check check) {
        for (int machine = 0; machine < 4; machine++) {
            BitStreams x = Feed.begun(machine);
            PlainModel model = Feed.modelBegun(machine);
            x.bits(5);
            model.bits(5);
            for (int n : new int[] {0, -1, 65, 66, 128, Integer.MIN_VALUE, Integer.MAX_VALUE}) {
                check.due("bits(" + n + ")", x.bits(n), 0);
                check.counts("bits(" + n + ")", x, 0, 0, machine, 5);
            }
            check.due("the stream goes on", x.bits(64), model.bits(64));
        }
    }
}
