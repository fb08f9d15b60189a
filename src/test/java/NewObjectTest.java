/** Promise 1: no key, no start, no machine. */
public final class NewObjectTest {
    public static void main(String[] args) {
        Check check = new Check();
        BitStreams x = new BitStreams();
        check.counts("new", x, 0, 0, -1, 0);
        for (int machine = 0; machine < 4; machine++) {
            check.due("begin(" + machine + ") without a key", x.begin(machine), false);
        }
        check.due("bits(1)", x.bits(1), 0);
        check.due("bits(64)", x.bits(64), 0);
        check.due("mix(-1, 64)", x.mix(-1L, 64), 0);
        check.due("skip(0)", x.skip(0), false);
        check.due("skip(1)", x.skip(1), false);
        check.counts("after refused calls", x, 0, 0, -1, 0);

        BitStreams used = Feed.begun(0);
        used.key(1, 1);
        used.bits(9);
        check.counts("a second object beside a used one", new BitStreams(), 0, 0, -1, 0);
        check.counts("the used one beside a new one", used, 1, 0, 0, 9);
        check.end();
    }
}
