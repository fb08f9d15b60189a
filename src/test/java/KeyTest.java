/** Promise 2: which bytes come behind the key, and what is refused. */
public final class KeyTest {
    public static void main(String[] args) {
        Check check = new Check();
        orderOfBytes(check);
        everyWidth(check);
        refusals(check);
        keyWhileRunning(check);
        check.end();
    }

    private static void orderOfBytes(Check check) {
        BitStreams x = new BitStreams();
        check.due("key of 5", x.key(0x0102030405L, 5), true);
        check.due("begin(3)", x.begin(3), true);
        check.due("key in one call", Feed.hexOf(x, 8), "b2396305f03dc027");
        x.key(0xff01L, 1);
        x.key(0xffffff0203L, 2);
        x.key(0x80000405L, 2);
        x.begin(3);
        check.due("only the lowest bytes, in three calls", Feed.hexOf(x, 8), "b2396305f03dc027");
    }

    private static void everyWidth(Check check) {
        long[] values = {0x8182838485868788L, -1L, 0L, Long.MIN_VALUE, 0x0123456789abcdefL};
        for (int n = 1; n <= 8; n++) {
            for (long v : values) {
                BitStreams x = new BitStreams();
                PlainModel model = new PlainModel();
                x.key(0x1122334455L, 5);
                model.key(0x1122334455L, 5);
                check.due("key(" + v + ", " + n + ")", x.key(v, n), model.key(v, n));
                check.counts("key of " + n, x, 5 + n, 0, -1, 0);
                x.begin(3);
                model.begin(3);
                check.due("stream of key(" + v + ", " + n + ")", x.bits(64), model.bits(64));
            }
        }
    }

    private static void refusals(Check check) {
        BitStreams x = new BitStreams();
        for (int n : new int[] {0, -1, 9, 10, 32, 256, Integer.MIN_VALUE, Integer.MAX_VALUE}) {
            check.due("key(1, " + n + ")", x.key(1L, n), false);
        }
        check.counts("after refused widths", x, 0, 0, -1, 0);
        for (int size = 0; size <= 32; size++) {
            for (int n = -1; n <= 9; n++) {
                BitStreams y = new BitStreams();
                for (int i = 0; i < size; i++) {
                    y.key(i, 1);
                }
                boolean fits = n >= 1 && n <= 8 && size + n <= 32;
                check.due("key of " + n + " behind " + size, y.key(7L, n), fits);
                check.counts("then", y, fits ? size + n : size, 0, -1, 0);
            }
        }
        refusedKeyChangesNothing(check);
    }

    private static void refusedKeyChangesNothing(Check check) {
        BitStreams x = new BitStreams();
        PlainModel model = new PlainModel();
        for (int i = 0; i < 29; i++) {
            x.key(3 * i, 1);
            model.key(3 * i, 1);
        }
        check.due("a key of 33", x.key(-1L, 4), false);
        check.due("key(1, 0)", x.key(-1L, 0), false);
        check.due("key(1, 9)", x.key(-1L, 9), false);
        x.key(0xaabbccL, 3);
        model.key(0xaabbccL, 3);
        check.due("a key of 32", x.begin(3), true);
        model.begin(3);
        check.due("stream of a key of 32", x.bits(64), model.bits(64));
    }

    private static void keyWhileRunning(Check check) {
        BitStreams x = Feed.begun(0);
        BitStreams same = Feed.begun(0);
        x.bits(5);
        same.bits(5);
        x.key(-1L, 8);
        check.counts("a key while a machine runs", x, 8, 0, 0, 5);
        check.due("the running machine goes on", x.bits(64), same.bits(64));
    }
}
