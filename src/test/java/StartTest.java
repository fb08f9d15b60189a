/** Promise 3: which bytes come behind the start, and what is refused. */
public final class StartTest {
    private static final int[] TOO_SMALL = {0, -1, -2, -8, -248, Integer.MIN_VALUE, Integer.MIN_VALUE + 1};
    private static final int[] TOO_LARGE = {9, 10, 11, 12, 13, 64, 257, 264, Integer.MAX_VALUE};

    private final Check check = new Check();

    public static void main(String[] args) {
        StartTest test = new StartTest();
        test.lowestBytesHighestFirst();
        test.everyWidth();
        test.smallestAndLargest();
        test.tooSmall();
        test.tooLarge();
        test.fullStart();
        test.moreThanFull();
        test.everySizeAndWidth();
        test.refusedStartChangesNothing();
        test.startWhileRunning();
        test.check.end();
    }

    private void lowestBytesHighestFirst() {
        check.says("Likewise behind the start");
        BitStreams whole = new BitStreams();
        Feed.key(whole, Feed.KEYS[1]);
        check.due("start of 8", whole.start(0x0123456789abcdefL, 8), true);
        check.due("start of 4", whole.start(0xffffffff80706050L, 4), true);
        BitStreams parts = new BitStreams();
        PlainModel model = new PlainModel();
        for (int value : Feed.bytes(Feed.KEYS[1])) {
            model.key(value, 1);
        }
        Feed.key(parts, Feed.KEYS[1]);
        for (int value : Feed.bytes("0123456789abcdef80706050")) {
            check.due("start of one byte", parts.start(value - 256L, 1), true);
            model.start(value, 1);
        }
        check.counts("a start of 12", whole, 16, 12, -1, 0);
        check.due("begin(1)", whole.begin(1), true);
        check.due("begin(1)", parts.begin(1), true);
        model.begin(1);
        long due = model.bits(64);
        check.due("start in two calls", whole.bits(64), due);
        check.due("start in twelve calls", parts.bits(64), due);
    }

    private void everyWidth() {
        check.says("Likewise behind the start");
        for (int n = 1; n <= 8; n++) {
            for (long v : new long[] {0x8182838485868788L, -1L, 0L, Long.MIN_VALUE}) {
                BitStreams x = new BitStreams();
                PlainModel model = new PlainModel();
                for (int value : Feed.bytes(Feed.KEYS[1])) {
                    x.key(value, 1);
                    model.key(value, 1);
                }
                for (int i = 0; i < 12 - n; i++) {
                    x.start(i + 100, 1);
                    model.start(i + 100, 1);
                }
                check.due("start(" + v + ", " + n + ")", x.start(v, n), model.start(v, n));
                check.due("begin(1)", x.begin(1), model.begin(1));
                check.due("stream of start(" + v + ", " + n + ")", x.bits(64), model.bits(64));
            }
        }
    }

    private void smallestAndLargest() {
        check.says("Likewise [true: n is 1 .. 8]");
        for (int n = 1; n <= 8; n++) {
            BitStreams x = new BitStreams();
            check.due("start(-1, " + n + ")", x.start(-1L, n), true);
            check.counts("start(-1, " + n + ")", x, 0, n, -1, 0);
        }
    }

    private void tooSmall() {
        check.says("Likewise [false if n is not 1 .. 8: too small]");
        refusedAtEverySize(TOO_SMALL);
    }

    private void tooLarge() {
        check.says("Likewise [false if n is not 1 .. 8: too large]");
        refusedAtEverySize(TOO_LARGE);
    }

    private void refusedAtEverySize(int[] widths) {
        for (int size : new int[] {0, 1, 3, 4, 11, 12}) {
            BitStreams x = Feed.holding(2, size);
            for (int n : widths) {
                check.due("start(1, " + n + ") behind " + size, x.start(1L, n), false);
                check.counts("start(1, " + n + ") behind " + size, x, 2, size, -1, 0);
            }
        }
    }

    private void fullStart() {
        check.says("of 12 bytes at most [12 are not too many]");
        BitStreams x = Feed.holding(16, 0);
        check.due("start of 8", x.start(1L, 8), true);
        check.due("4 bytes behind 8", x.start(1L, 4), true);
        check.counts("a full start", x, 16, 12, -1, 0);
        check.due("begin(1)", x.begin(1), true);
        check.due("room again behind begin", x.start(7L, 8), true);
        check.counts("room again behind begin", x, 0, 8, 1, 0);
    }

    private void moreThanFull() {
        check.says("of 12 bytes at most");
        BitStreams full = Feed.holding(0, 12);
        for (int n = 1; n <= 8; n++) {
            check.due("start of " + n + " behind 12", full.start(0L, n), false);
            check.due("count(1)", full.count(1), 12);
        }
        BitStreams almost = Feed.holding(0, 11);
        for (int n = 2; n <= 8; n++) {
            check.due("start of " + n + " behind 11", almost.start(0L, n), false);
            check.due("count(1)", almost.count(1), 11);
        }
        check.due("the last one", almost.start(0L, 1), true);
        check.due("count(1)", almost.count(1), 12);
    }

    private void everySizeAndWidth() {
        check.says("Likewise behind the start: of 12 bytes at most");
        for (int size = 0; size <= 12; size++) {
            for (int n = -1; n <= 9; n++) {
                BitStreams x = Feed.holding(0, size);
                boolean fits = n >= 1 && n <= 8 && size + n <= 12;
                check.due("start of " + n + " behind " + size, x.start(7L, n), fits);
                check.counts("start of " + n + " behind " + size, x, 0, fits ? size + n : size, -1, 0);
            }
        }
    }

    private void refusedStartChangesNothing() {
        check.says("A call that is refused changes nothing [start]");
        BitStreams x = new BitStreams();
        Feed.key(x, Feed.KEYS[1]);
        Feed.start(x, Feed.STARTS[1].substring(0, 10));
        check.due("a start of 13", x.start(-1L, 8), false);
        check.due("start(-1, 0)", x.start(-1L, 0), false);
        check.due("start(-1, 9)", x.start(-1L, 9), false);
        Feed.start(x, Feed.STARTS[1].substring(10));
        check.due("start(-1, 1) behind 12", x.start(-1L, 1), false);
        check.due("begin(1)", x.begin(1), true);
        check.due("stream after refused starts", x.bits(64), Feed.begun(1).bits(64));
    }

    private void startWhileRunning() {
        check.says("Likewise behind the start [of a machine that has begun nothing changes]");
        BitStreams x = Feed.begun(2);
        BitStreams same = Feed.begun(2);
        x.start(-1L, 3);
        check.counts("a start while a machine runs", x, 0, 3, 2, 0);
        check.due("the running machine goes on", x.bits(64), same.bits(64));
    }
}
