/** Promise 7: the next bits added to the lowest of v, and what is refused. */
public final class MixTest {
    private static final long[] VALUES = {
        0L, 1L, -1L, 2L, 0x5555555555555555L, 0x123456789abcdef0L, Long.MIN_VALUE, Long.MAX_VALUE, 1L << 32
    };
    private static final int[] TOO_SMALL = {0, -1, -2, -63, -64, -192, Integer.MIN_VALUE, Integer.MIN_VALUE + 1};
    private static final int[] TOO_LARGE = {65, 66, 127, 128, 257, 320, Integer.MAX_VALUE};

    private final Check check = new Check();

    public static void main(String[] args) {
        MixTest test = new MixTest();
        test.everyWidth();
        test.addedToTheLowest();
        test.mixedTwice();
        test.otherBits();
        test.oneBit();
        test.sixtyFourBits();
        test.noMachine();
        test.tooSmall();
        test.tooLarge();
        test.check.end();
    }

    private void everyWidth() {
        check.says("The next n bits are added to the lowest n bits of v: all other bits are 0");
        for (int machine = 0; machine < 4; machine++) {
            for (long v : VALUES) {
                BitStreams x = Feed.begun(machine);
                PlainModel model = Feed.modelBegun(machine);
                int used = 0;
                for (int n = 1; n <= 64; n++) {
                    String call = "machine " + machine + ": mix(" + v + ", " + n + ")";
                    check.due(call, x.mix(v, n), model.mix(v, n));
                    used += n;
                    check.counts(call, x, 0, 0, machine, used);
                }
            }
        }
    }

    private void addedToTheLowest() {
        check.says("The next n bits are added to the lowest n bits of v");
        BitStreams x = Feed.begun(3, "0102030405", "");
        check.due("mix(0, 8)", x.mix(0L, 8), 0xb2);
        check.due("mix(255, 8)", x.mix(255L, 8), 0xff ^ 0x39);
        check.due("mix(0x0f, 8)", x.mix(0x0fL, 8), 0x0f ^ 0x63);
        check.due("mix(-1, 4)", x.mix(-1L, 4), 0xf);
        check.due("mix(1, 4)", x.mix(1L, 4), 0x4);
        check.due("bits(8)", x.bits(8), 0xf0);
    }

    private void mixedTwice() {
        check.says("The next n bits are added to the lowest n bits of v [twice is v again]");
        for (int machine = 0; machine < 4; machine++) {
            BitStreams there = Feed.begun(machine);
            BitStreams back = Feed.begun(machine);
            for (long v : VALUES) {
                check.due("mix there and back", back.mix(there.mix(v, 64), 64), v);
            }
        }
    }

    private void otherBits() {
        check.says("all other bits are 0");
        for (int machine = 0; machine < 4; machine++) {
            for (int n = 1; n <= 63; n++) {
                BitStreams x = Feed.begun(machine);
                long given = Feed.begun(machine).bits(n);
                check.due("mix(-1, " + n + ") above its bits", x.mix(-1L, n) >>> n, 0);
                BitStreams other = Feed.begun(machine);
                check.due("mix(-1 << " + n + ", " + n + ")", other.mix(-1L << n, n), given);
            }
        }
    }

    private void oneBit() {
        check.says("n is not 1 .. 64 [1 is]");
        for (int machine = 0; machine < 4; machine++) {
            BitStreams x = Feed.begun(machine);
            long whole = Feed.modelBegun(machine).bits(64);
            for (int i = 63; i >= 0; i--) {
                check.due("mix(-1, 1)", x.mix(-1L, 1), 1 - (whole >>> i & 1));
            }
            check.due("count(3)", x.count(3), 64);
        }
    }

    private void sixtyFourBits() {
        check.says("n is not 1 .. 64 [64 is]");
        check.due("mix(-1, 64)", Feed.begun(3, "0102030405", "").mix(-1L, 64), ~0xb2396305f03dc027L);
        check.due("mix(MIN, 64)", Feed.begun(3, "0102030405", "").mix(Long.MIN_VALUE, 64), 0x32396305f03dc027L);
    }

    private void noMachine() {
        check.says("0 if no machine has begun");
        for (int machine = 0; machine < 4; machine++) {
            BitStreams x = new BitStreams();
            Feed.key(x, Feed.KEYS[machine]);
            Feed.start(x, Feed.STARTS[machine]);
            for (int n : new int[] {1, 2, 63, 64, 0, -1, 65}) {
                for (long v : VALUES) {
                    check.due("mix(" + v + ", " + n + ")", x.mix(v, n), 0);
                }
            }
            check.counts("mix", x, Feed.KEYS[machine].length() / 2, Feed.STARTS[machine].length() / 2, -1, 0);
            check.due("begin(" + machine + ")", x.begin(machine), true);
            check.due("no bit is gone", x.bits(64), Feed.modelBegun(machine).bits(64));
        }
    }

    private void tooSmall() {
        check.says("0 if n is not 1 .. 64 [too small]");
        refused(TOO_SMALL);
    }

    private void tooLarge() {
        check.says("0 if n is not 1 .. 64 [too large]");
        refused(TOO_LARGE);
    }

    private void refused(int[] widths) {
        for (int machine = 0; machine < 4; machine++) {
            for (int n : widths) {
                BitStreams x = Feed.begun(machine);
                PlainModel model = Feed.modelBegun(machine);
                x.mix(9L, 5);
                model.mix(9L, 5);
                for (long v : VALUES) {
                    check.due("mix(" + v + ", " + n + ")", x.mix(v, n), 0);
                }
                check.counts("mix(.., " + n + ")", x, 0, 0, machine, 5);
                check.due("the stream goes on", x.mix(-7L, 64), model.mix(-7L, 64));
            }
        }
    }
}
