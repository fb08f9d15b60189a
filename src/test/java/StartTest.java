/** Promise 3: which bytes come behind the start, and what is refused. */
public final class StartTest {
    public static void main(String[] args) {
        Check check = new Check();
        orderOfBytes(check);
        refusals(check);
        refusedStartChangesNothing(check);
        startWhileRunning(check);
        check.end();
    }

    private static void orderOfBytes(Check check) {
        BitStreams whole = new BitStreams();
        Feed.key(whole, Feed.KEYS[1]);
        whole.start(0x0123456789abcdefL, 8);
        whole.start(0xffffffff80706050L, 4);
        BitStreams parts = new BitStreams();
        PlainModel model = new PlainModel();
        for (int value : Feed.bytes(Feed.KEYS[1])) {
            model.key(value, 1);
        }
        Feed.key(parts, Feed.KEYS[1]);
        for (int value : Feed.bytes("0123456789abcdef80706050")) {
            check.due("start of one byte", parts.start(value - 256L, 1), true);
            model.start(value, 1);
        }
        check.counts("a start of 12", whole, 16, 12, -1, 0);
        check.due("begin(1)", whole.begin(1), true);
        check.due("begin(1)", parts.begin(1), true);
        model.begin(1);
        long due = model.bits(64);
        check.due("start in two calls", whole.bits(64), due);
        check.due("start in twelve calls", parts.bits(64), due);
    }

    private static void refusals(Check check) {
        BitStreams x = new BitStreams();
        for (int n : new int[] {0, -1, 9, 10, 12, 256, Integer.MIN_VALUE, Integer.MAX_VALUE}) {
            check.due("start(1, " + n + ")", x.start(1L, n), false);
        }
        check.counts("after refused widths", x, 0, 0, -1, 0);
        for (int size = 0; size <= 12; size++) {
            for (int n = -1; n <= 9; n++) {
                BitStreams y = new BitStreams();
                for (int i = 0; i < size; i++) {
                    y.start(i, 1);
                }
                boolean fits = n >= 1 && n <= 8 && size + n <= 12;
                check.due("start of " + n + " behind " + size, y.start(7L, n), fits);
                check.counts("then", y, 0, fits ? size + n : size, -1, 0);
            }
        }
    }

    private static void refusedStartChangesNothing(Check check) {
        BitStreams x = new BitStreams();
        Feed.key(x, Feed.KEYS[1]);
        Feed.start(x, Feed.STARTS[1].substring(0, 10));
        check.due("a start of 13", x.start(-1L, 8), false);
        check.due("start(-1, 0)", x.start(-1L, 0), false);
        check.due("start(-1, 9)", x.start(-1L, 9), false);
        Feed.start(x, Feed.STARTS[1].substring(10));
        check.due("start(-1, 1) behind 12", x.start(-1L, 1), false);
        check.due("begin(1)", x.begin(1), true);
        check.due("stream after refused starts", x.bits(64), Feed.begun(1).bits(64));
    }

    private static void startWhileRunning(Check check) {
        BitStreams x = Feed.begun(2);
        BitStreams same = Feed.begun(2);
        x.start(-1L, 3);
        check.counts("a start while a machine runs", x, 0, 3, 2, 0);
        check.due("the running machine goes on", x.bits(64), same.bits(64));
    }
}
