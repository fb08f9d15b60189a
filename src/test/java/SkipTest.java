/** Promise 6: bits that are lost, and what is refused. */
public final class SkipTest {
    public static void main(String[] args) {
        Check check = new Check();
        skips(check);
        refusals(check);
        longestRun(check);
        check.end();
    }

    private static void skips(Check check) {
        for (int machine = 0; machine < 4; machine++) {
            BitStreams x = Feed.begun(machine);
            PlainModel model = Feed.modelBegun(machine);
            int used = 0;
            for (int n : new int[] {0, 1, 2, 7, 8, 9, 0, 63, 64, 65, 1000, 4999, 5000}) {
                check.due("skip(" + n + ")", x.skip(n), true);
                model.skip(n);
                used += n;
                check.counts("skip(" + n + ")", x, 0, 0, machine, used);
                check.due("machine " + machine + " behind skip(" + n + ")", x.bits(11), model.bits(11));
                used += 11;
            }
        }
    }

    private static void refusals(Check check) {
        check.due("skip(0) without a machine", new BitStreams().skip(0), false);
        check.due("skip(5000) without a machine", new BitStreams().skip(5000), false);
        for (int machine = 0; machine < 4; machine++) {
            BitStreams x = Feed.begun(machine);
            PlainModel model = Feed.modelBegun(machine);
            x.skip(3);
            model.skip(3);
            for (int n : new int[] {-1, -64, 5001, 5002, Integer.MIN_VALUE, Integer.MAX_VALUE}) {
                check.due("skip(" + n + ")", x.skip(n), false);
                check.counts("skip(" + n + ")", x, 0, 0, machine, 3);
            }
            check.due("the stream goes on", x.bits(64), model.bits(64));
        }
    }

    private static void longestRun(Check check) {
        for (int machine = 0; machine < 4; machine++) {
            BitStreams x = Feed.begun(machine);
            PlainModel model = Feed.modelBegun(machine);
            for (int i = 0; i < 450; i++) {
                x.skip(5000);
                model.skip(5000);
            }
            check.counts("after 450 skips", x, 0, 0, machine, 2250000);
            check.due("machine " + machine + " after 450 skips", x.bits(64), model.bits(64));
        }
    }
}
