/** Promise 1: no key, no start, no machine. */
public final class NewObjectTest {
    private final Check check = new Check();

    public static void main(String[] args) {
        NewObjectTest test = new NewObjectTest();
        test.noKey();
        test.noStart();
        test.noMachine();
        test.besideAnother();
        test.check.end();
    }

    private void noKey() {
        check.says("No key");
        check.due("count(0)", new BitStreams().count(0), 0);
        BitStreams x = new BitStreams();
        check.due("begin(3) with an empty key", x.begin(3), false);
        check.due("key of 5", x.key(0x0102030405L, 5), true);
        check.due("count(0)", x.count(0), 5);
        check.due("begin(3)", x.begin(3), true);
        check.due("no byte stands ahead of the first key", Feed.hexOf(x, 8), "b2396305f03dc027");
    }

    private void noStart() {
        check.says("no start");
        check.due("count(1)", new BitStreams().count(1), 0);
        BitStreams x = new BitStreams();
        Feed.key(x, Feed.KEYS[1]);
        check.due("begin(1) with an empty start", x.begin(1), false);
        Feed.start(x, Feed.STARTS[1]);
        check.due("count(1)", x.count(1), 12);
        check.due("begin(1)", x.begin(1), true);
        check.due("no byte stands ahead of the first start", x.bits(64), Feed.modelBegun(1).bits(64));
    }

    private void noMachine() {
        check.says("no machine has begun");
        BitStreams x = new BitStreams();
        check.counts("new", x, 0, 0, -1, 0);
        for (int machine = 0; machine < 4; machine++) {
            check.due("begin(" + machine + ") without key and start", x.begin(machine), false);
        }
        check.due("bits(1)", x.bits(1), 0);
        check.due("bits(64)", x.bits(64), 0);
        check.due("mix(-1, 1)", x.mix(-1L, 1), 0);
        check.due("mix(-1, 64)", x.mix(-1L, 64), 0);
        check.due("skip(0)", x.skip(0), false);
        check.due("skip(1)", x.skip(1), false);
        check.counts("after refused calls", x, 0, 0, -1, 0);
    }

    private void besideAnother() {
        check.says("All memory is the class's own");
        BitStreams used = Feed.begun(0);
        used.key(1, 1);
        used.start(1, 2);
        used.bits(9);
        check.counts("a new object beside a used one", new BitStreams(), 0, 0, -1, 0);
        check.due("its bits(64)", new BitStreams().bits(64), 0);
        check.counts("the used one beside a new one", used, 1, 2, 0, 9);
    }
}
