/** Promise 6: bits that are lost, and what is refused. */
public final class SkipTest {
    private static final int[] TOO_SMALL = {-1, -2, -64, -5000, -65536, Integer.MIN_VALUE, Integer.MIN_VALUE + 1};
    private static final int[] TOO_LARGE = {5001, 5002, 8192, 10000, 65536, 65537, Integer.MAX_VALUE};

    private final Check check = new Check();

    public static void main(String[] args) {
        SkipTest test = new SkipTest();
        test.lost();
        test.skippedAsIfGiven();
        test.none();
        test.most();
        test.noMachine();
        test.tooSmall();
        test.tooLarge();
        test.longestRun();
        test.check.end();
    }

    private void lost() {
        check.says("The next n bits are lost");
        for (int machine = 0; machine < 4; machine++) {
            BitStreams x = Feed.begun(machine);
            PlainModel model = Feed.modelBegun(machine);
            int used = 0;
            for (int n : new int[] {0, 1, 2, 7, 8, 9, 0, 63, 64, 65, 1000, 4999, 5000}) {
                check.due("skip(" + n + ")", x.skip(n), true);
                model.skip(n);
                used += n;
                check.counts("skip(" + n + ")", x, 0, 0, machine, used);
                check.due("machine " + machine + " behind skip(" + n + ")", x.bits(11), model.bits(11));
                used += 11;
            }
        }
    }

    private void skippedAsIfGiven() {
        check.says("The next n bits are lost [as many as bits would give]");
        for (int machine = 0; machine < 4; machine++) {
            for (int n = 1; n <= 64; n++) {
                BitStreams lost = Feed.begun(machine);
                BitStreams given = Feed.begun(machine);
                check.due("skip(" + n + ")", lost.skip(n), true);
                given.bits(n);
                check.due("behind skip(" + n + ")", lost.bits(64), given.bits(64));
            }
        }
    }

    private void none() {
        check.says("n is not 0 .. 5000 [0 is]");
        for (int machine = 0; machine < 4; machine++) {
            BitStreams x = Feed.begun(machine);
            PlainModel model = Feed.modelBegun(machine);
            for (int i = 0; i < 20; i++) {
                check.due("skip(0)", x.skip(0), true);
                check.counts("skip(0)", x, 0, 0, machine, 3 * i);
                check.due("behind skip(0)", x.bits(3), model.bits(3));
            }
        }
    }

    private void most() {
        check.says("n is not 0 .. 5000 [5000 is]");
        for (int machine = 0; machine < 4; machine++) {
            BitStreams lost = Feed.begun(machine);
            BitStreams given = Feed.begun(machine);
            check.due("skip(5000)", lost.skip(5000), true);
            check.counts("skip(5000)", lost, 0, 0, machine, 5000);
            for (int i = 0; i < 100; i++) {
                given.bits(50);
            }
            check.due("behind skip(5000)", lost.bits(64), given.bits(64));
        }
    }

    private void noMachine() {
        check.says("false if no machine has begun");
        for (int machine = 0; machine < 4; machine++) {
            BitStreams x = new BitStreams();
            Feed.key(x, Feed.KEYS[machine]);
            Feed.start(x, Feed.STARTS[machine]);
            for (int n : new int[] {0, 1, 5000, -1, 5001}) {
                check.due("skip(" + n + ")", x.skip(n), false);
            }
            check.counts("skip", x, Feed.KEYS[machine].length() / 2, Feed.STARTS[machine].length() / 2, -1, 0);
            check.due("begin(" + machine + ")", x.begin(machine), true);
            check.due("no bit is gone", x.bits(64), Feed.modelBegun(machine).bits(64));
        }
    }

    private void tooSmall() {
        check.says("false if n is not 0 .. 5000 [too small]");
        refused(TOO_SMALL);
    }

    private void tooLarge() {
        check.says("false if n is not 0 .. 5000 [too large]");
        refused(TOO_LARGE);
    }

    private void refused(int[] lengths) {
        for (int machine = 0; machine < 4; machine++) {
            for (int n : lengths) {
                BitStreams x = Feed.begun(machine);
                PlainModel model = Feed.modelBegun(machine);
                x.skip(3);
                model.skip(3);
                check.due("skip(" + n + ")", x.skip(n), false);
                check.counts("skip(" + n + ")", x, 0, 0, machine, 3);
                check.due("the stream goes on", x.bits(64), model.bits(64));
            }
        }
    }

    private void longestRun() {
        check.says("The next n bits are lost [many times]");
        for (int machine = 0; machine < 4; machine++) {
            BitStreams x = Feed.begun(machine);
            PlainModel model = Feed.modelBegun(machine);
            for (int i = 0; i < 450; i++) {
                x.skip(5000);
                model.skip(5000);
            }
            check.counts("after 450 skips", x, 0, 0, machine, 2250000);
            check.due("machine " + machine + " after 450 skips", x.bits(64), model.bits(64));
        }
    }
}
