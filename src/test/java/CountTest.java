/** Promise 8: what is counted, and -1 for another what. */
public final class CountTest {
    private final Check check = new Check();

    public static void main(String[] args) {
        CountTest test = new CountTest();
        test.bytesOfTheKey();
        test.bytesOfTheStart();
        test.theMachine();
        test.bitsGivenOrLost();
        test.bitsWithoutAMachine();
        test.refusedCallsDoNotCount();
        test.whatTooSmall();
        test.whatTooLarge();
        test.countingChangesNothing();
        test.check.end();
    }

    private void bytesOfTheKey() {
        check.says("0 bytes of the key");
        BitStreams x = new BitStreams();
        for (int size = 0; size <= 32; size++) {
            check.counts("a key of " + size, x, size, 0, -1, 0);
            check.due("one more behind " + size, x.key(9L, 1), size < 32);
        }
        check.counts("a full key", x, 32, 0, -1, 0);
        check.due("begin(3)", x.begin(3), true);
        check.due("count(0) behind begin", x.count(0), 0);
    }

    private void bytesOfTheStart() {
        check.says("1 of the start");
        BitStreams x = new BitStreams();
        for (int size = 0; size <= 12; size++) {
            check.counts("a start of " + size, x, 0, size, -1, 0);
            check.due("one more behind " + size, x.start(9L, 1), size < 12);
        }
        check.counts("a full start", x, 0, 12, -1, 0);
        x.key(1L, 8);
        x.key(2L, 8);
        check.due("begin(1)", x.begin(1), true);
        check.due("count(1) behind begin", x.count(1), 0);
    }

    private void theMachine() {
        check.says("2 the machine (-1: none)");
        check.due("none", new BitStreams().count(2), -1);
        BitStreams x = Feed.holding(10, 10);
        check.due("none yet", x.count(2), -1);
        check.due("begin(1) with the sizes of 0", x.begin(1), false);
        check.due("none yet", x.count(2), -1);
        for (int machine = 0; machine < 4; machine++) {
            BitStreams y = Feed.begun(machine);
            check.due("begun", y.count(2), machine);
            y.bits(7);
            y.key(1L, 1);
            y.begin(machine == 0 ? 1 : 0);
            check.due("still it", y.count(2), machine);
        }
    }

    private void bitsGivenOrLost() {
        check.says("3 bits that were given or lost since it began");
        for (int machine = 0; machine < 4; machine++) {
            BitStreams x = Feed.begun(machine);
            check.counts("begun", x, 0, 0, machine, 0);
            x.bits(64);
            check.counts("bits(64)", x, 0, 0, machine, 64);
            x.bits(1);
            check.counts("bits(1)", x, 0, 0, machine, 65);
            x.mix(-1L, 7);
            check.counts("mix(-1, 7)", x, 0, 0, machine, 72);
            x.mix(0L, 64);
            check.counts("mix(0, 64)", x, 0, 0, machine, 136);
            x.skip(5000);
            check.counts("skip(5000)", x, 0, 0, machine, 5136);
            x.skip(0);
            check.counts("skip(0)", x, 0, 0, machine, 5136);
            x.key(1L, 8);
            x.start(1L, 3);
            check.counts("key and start", x, 8, 3, machine, 5136);
            x.begin(2);
            check.counts("begun anew", x, 0, 0, 2, 0);
        }
    }

    private void bitsWithoutAMachine() {
        check.says("0 without one");
        BitStreams x = new BitStreams();
        check.due("new", x.count(3), 0);
        x.bits(64);
        x.mix(5L, 64);
        x.skip(5000);
        check.due("bits, mix and skip without one", x.count(3), 0);
        x.key(1L, 8);
        x.start(1L, 3);
        x.begin(1);
        check.due("a refused begin", x.count(3), 0);
        check.due("begin(2)", x.begin(2), true);
        check.due("begun", x.count(3), 0);
    }

    private void refusedCallsDoNotCount() {
        check.says("A call that is refused changes nothing [count]");
        for (int machine = 0; machine < 4; machine++) {
            BitStreams x = Feed.begun(machine);
            x.bits(9);
            x.bits(0);
            x.bits(65);
            x.mix(5L, 0);
            x.mix(5L, 65);
            x.skip(-1);
            x.skip(5001);
            x.key(1L, 0);
            x.key(1L, 9);
            x.start(1L, 0);
            x.start(1L, 9);
            x.begin(-1);
            x.begin(4);
            x.begin(machine);
            check.counts("refused calls", x, 0, 0, machine, 9);
        }
    }

    private void whatTooSmall() {
        check.says("-1 for another what [too small]");
        otherWhats(new int[] {-1, -2, -3, -4, -256, Integer.MIN_VALUE, Integer.MIN_VALUE + 3});
    }

    private void whatTooLarge() {
        check.says("-1 for another what [too large]");
        otherWhats(new int[] {4, 5, 6, 7, 8, 256, 259, 65536, Integer.MAX_VALUE});
    }

    private void otherWhats(int[] whats) {
        for (int what : whats) {
            check.due("count(" + what + ")", new BitStreams().count(what), -1);
            check.due("count(" + what + ")", Feed.holding(32, 12).count(what), -1);
            for (int machine = 0; machine < 4; machine++) {
                BitStreams x = Feed.begun(machine);
                x.bits(11);
                check.due("count(" + what + ")", x.count(what), -1);
                check.counts("count(" + what + ")", x, 0, 0, machine, 11);
            }
        }
    }

    private void countingChangesNothing() {
        check.says("count [is asked only]");
        for (int machine = 0; machine < 4; machine++) {
            BitStreams x = new BitStreams();
            Feed.key(x, Feed.KEYS[machine]);
            Feed.start(x, Feed.STARTS[machine]);
            PlainModel model = Feed.modelBegun(machine);
            askAll(x);
            x.begin(machine);
            askAll(x);
            check.due("first bits", x.bits(13), model.bits(13));
            askAll(x);
            check.due("the next bits", x.bits(64), model.bits(64));
        }
    }

    private static void askAll(BitStreams x) {
        for (int what = -2; what <= 5; what++) {
            x.count(what);
        }
    }
}
