/** Promise 2: which bytes come behind the key, and what is refused. */
public final class KeyTest {
    private static final long[] VALUES = {0x8182838485868788L, -1L, 0L, Long.MIN_VALUE, 0x0123456789abcdefL};
    private static final int[] TOO_SMALL = {0, -1, -2, -8, -248, Integer.MIN_VALUE, Integer.MIN_VALUE + 1};
    private static final int[] TOO_LARGE = {9, 10, 16, 32, 33, 64, 257, 264, Integer.MAX_VALUE};

    private final Check check = new Check();

    public static void main(String[] args) {
        KeyTest test = new KeyTest();
        test.lowestBytes();
        test.highestFirst();
        test.behindTheKey();
        test.smallestAndLargest();
        test.tooSmall();
        test.tooLarge();
        test.fullKey();
        test.moreThanFull();
        test.everySizeAndWidth();
        test.refusedKeyChangesNothing();
        test.keyWhileRunning();
        test.check.end();
    }

    private void lowestBytes() {
        check.says("The lowest n bytes of v");
        BitStreams x = new BitStreams();
        x.key(0xff01L, 1);
        x.key(0xffffff0203L, 2);
        x.key(0x80000405L, 2);
        check.counts("three calls", x, 5, 0, -1, 0);
        x.begin(3);
        check.due("only the lowest bytes", Feed.hexOf(x, 8), "b2396305f03dc027");
        for (int value = 1; value <= 5; value++) {
            x.key(value - 256L, 1);
        }
        x.begin(3);
        check.due("the lowest byte of a number below 0", Feed.hexOf(x, 8), "b2396305f03dc027");
    }

    private void highestFirst() {
        check.says("the highest of them first");
        BitStreams x = new BitStreams();
        check.due("key of 5", x.key(0x0102030405L, 5), true);
        check.due("begin(3)", x.begin(3), true);
        check.due("key in one call", Feed.hexOf(x, 8), "b2396305f03dc027");
        for (int n = 1; n <= 8; n++) {
            for (long v : VALUES) {
                streamOfWidth(v, n);
            }
        }
    }

    private void streamOfWidth(long v, int n) {
        BitStreams x = new BitStreams();
        PlainModel model = new PlainModel();
        x.key(0x1122334455L, 5);
        model.key(0x1122334455L, 5);
        check.due("key(" + v + ", " + n + ")", x.key(v, n), model.key(v, n));
        check.counts("key of " + n, x, 5 + n, 0, -1, 0);
        x.begin(3);
        model.begin(3);
        check.due("stream of key(" + v + ", " + n + ")", x.bits(64), model.bits(64));
    }

    private void behindTheKey() {
        check.says("come behind the key");
        BitStreams x = new BitStreams();
        x.key(0x01L, 1);
        x.key(0x020304L, 3);
        x.key(0x05L, 1);
        x.begin(3);
        check.due("parts in their order", Feed.hexOf(x, 8), "b2396305f03dc027");
    }

    private void smallestAndLargest() {
        check.says("true [n is 1 .. 8]");
        for (int n = 1; n <= 8; n++) {
            BitStreams x = new BitStreams();
            check.due("key(-1, " + n + ")", x.key(-1L, n), true);
            check.counts("key(-1, " + n + ")", x, n, 0, -1, 0);
        }
    }

    private void tooSmall() {
        check.says("false if n is not 1 .. 8 [too small]");
        refusedAtEverySize(TOO_SMALL);
    }

    private void tooLarge() {
        check.says("false if n is not 1 .. 8 [too large]");
        refusedAtEverySize(TOO_LARGE);
    }

    private void refusedAtEverySize(int[] widths) {
        for (int size : new int[] {0, 1, 5, 24, 31, 32}) {
            BitStreams x = Feed.holding(size, 2);
            for (int n : widths) {
                check.due("key(1, " + n + ") behind " + size, x.key(1L, n), false);
                check.counts("key(1, " + n + ") behind " + size, x, size, 2, -1, 0);
            }
        }
    }

    private void fullKey() {
        check.says("there would be more than 32 [32 are not]");
        BitStreams x = new BitStreams();
        PlainModel model = new PlainModel();
        for (int i = 0; i < 4; i++) {
            check.due("8 bytes behind " + 8 * i, x.key(VALUES[i] + i, 8), true);
            model.key(VALUES[i] + i, 8);
        }
        check.counts("a full key", x, 32, 0, -1, 0);
        check.due("begin(3)", x.begin(3), true);
        model.begin(3);
        check.due("stream of a full key", x.bits(64), model.bits(64));
        check.due("room again behind begin", x.key(7L, 8), true);
        check.counts("room again behind begin", x, 8, 0, 3, 64);
    }

    private void moreThanFull() {
        check.says("or there would be more than 32");
        BitStreams full = Feed.holding(32, 0);
        for (int n = 1; n <= 8; n++) {
            check.due("key of " + n + " behind 32", full.key(0L, n), false);
            check.due("count(0)", full.count(0), 32);
        }
        BitStreams almost = Feed.holding(31, 0);
        for (int n = 2; n <= 8; n++) {
            check.due("key of " + n + " behind 31", almost.key(0L, n), false);
            check.due("count(0)", almost.count(0), 31);
        }
        check.due("the last one", almost.key(0L, 1), true);
        check.due("count(0)", almost.count(0), 32);
    }

    private void everySizeAndWidth() {
        check.says("false if n is not 1 .. 8, or there would be more than 32");
        for (int size = 0; size <= 32; size++) {
            for (int n = -1; n <= 9; n++) {
                BitStreams x = Feed.holding(size, 0);
                boolean fits = n >= 1 && n <= 8 && size + n <= 32;
                check.due("key of " + n + " behind " + size, x.key(7L, n), fits);
                check.counts("key of " + n + " behind " + size, x, fits ? size + n : size, 0, -1, 0);
            }
        }
    }

    private void refusedKeyChangesNothing() {
        check.says("A call that is refused changes nothing [key]");
        BitStreams x = new BitStreams();
        PlainModel model = new PlainModel();
        for (int i = 0; i < 29; i++) {
            x.key(3 * i, 1);
            model.key(3 * i, 1);
        }
        check.due("a key of 33", x.key(-1L, 4), false);
        check.due("key(-1, 0)", x.key(-1L, 0), false);
        check.due("key(-1, 9)", x.key(-1L, 9), false);
        check.due("key(0xaabbcc, 3)", x.key(0xaabbccL, 3), true);
        model.key(0xaabbccL, 3);
        check.due("key(-1, 1) behind 32", x.key(-1L, 1), false);
        check.due("a key of 32", x.begin(3), true);
        model.begin(3);
        check.due("stream of a key of 32", x.bits(64), model.bits(64));
    }

    private void keyWhileRunning() {
        check.says("come behind the key [of a machine that has begun nothing changes]");
        BitStreams x = Feed.begun(0);
        BitStreams same = Feed.begun(0);
        x.bits(5);
        same.bits(5);
        x.key(-1L, 8);
        check.counts("a key while a machine runs", x, 8, 0, 0, 5);
        check.due("the running machine goes on", x.bits(64), same.bits(64));
    }
}
