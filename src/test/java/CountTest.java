/** Promise 8: what is counted, and -1 for another what. */
public final class CountTest {
    public static void main(String[] args) {
        Check check = new Check();
        wrongWhats(check, new BitStreams());
        for (int machine = 0; machine < 4; machine++) {
            BitStreams x = Feed.begun(machine);
            check.counts("begun", x, 0, 0, machine, 0);
            x.bits(64);
            check.counts("bits(64)", x, 0, 0, machine, 64);
            x.bits(1);
            x.mix(-1L, 7);
            x.skip(5000);
            x.skip(0);
            check.counts("bits, mix and skip", x, 0, 0, machine, 5072);
            x.bits(0);
            x.mix(5L, 65);
            x.skip(5001);
            check.counts("refused calls", x, 0, 0, machine, 5072);
            x.key(1L, 8);
            x.start(1L, 3);
            check.counts("key and start", x, 8, 3, machine, 5072);
            wrongWhats(check, x);
            x.begin(2);
            check.counts("begun anew", x, 0, 0, 2, 0);
            check.due("counting changes nothing", x.bits(64), firstBitsOfTwo());
        }
        check.end();
    }

    private static long firstBitsOfTwo() {
        PlainModel model = new PlainModel();
        model.key(1L, 8);
        model.start(1L, 3);
        model.begin(2);
        return model.bits(64);
    }

    private static void wrongWhats(Check check, BitStreams x) {
        for (int what : new int[] {-1, -2, 4, 5, 256, Integer.MIN_VALUE, Integer.MAX_VALUE}) {
            check.due("count(" + what + ")", x.count(what), -1);
        }
    }
}
