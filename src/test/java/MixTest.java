/** Promise 7: the next bits added to the lowest of v, and what is refused. */
public final class MixTest {
    private static final long[] VALUES = {
        0L, 1L, -1L, 2L, 0x5555555555555555L, 0x123456789abcdef0L, Long.MIN_VALUE, Long.MAX_VALUE, 1L << 32
    };

    public static void main(String[] args) {
        Check check = new Check();
        everyWidth(check);
        mixedTwice(check);
        refusals(check);
        check.end();
    }

    private static void everyWidth(Check check) {
        for (int machine = 0; machine < 4; machine++) {
            for (long v : VALUES) {
                BitStreams x = Feed.begun(machine);
                PlainModel model = Feed.modelBegun(machine);
                int used = 0;
                for (int n = 1; n <= 64; n++) {
                    String call = "machine " + machine + ": mix(" + v + ", " + n + ")";
                    long got = x.mix(v, n);
                    check.due(call, got, model.mix(v, n));
                    check.due(call + ", the other bits", n == 64 ? 0 : got >>> n, 0);
                    used += n;
                    check.counts(call, x, 0, 0, machine, used);
                }
            }
        }
    }

    private static void mixedTwice(Check check) {
        for (int machine = 0; machine < 4; machine++) {
            BitStreams there = Feed.begun(machine);
            BitStreams back = Feed.begun(machine);
            for (long v : VALUES) {
                check.due("mix there and back", back.mix(there.mix(v, 64), 64), v);
            }
        }
    }

    private static void refusals(Check check) {
        check.due("mix(-1, 8) without a machine", new BitStreams().mix(-1L, 8), 0);
        for (int machine = 0; machine < 4; machine++) {
            BitStreams x = Feed.begun(machine);
            PlainModel model = Feed.modelBegun(machine);
            x.mix(9L, 5);
            model.mix(9L, 5);
            for (int n : new int[] {0, -1, 65, 66, 128, Integer.MIN_VALUE, Integer.MAX_VALUE}) {
                check.due("mix(-1, " + n + ")", x.mix(-1L, n), 0);
                check.counts("mix(-1, " + n + ")", x, 0, 0, machine, 5);
            }
            check.due("the stream goes on", x.mix(-7L, 64), model.mix(-7L, 64));
        }
    }
}
