/** Promise 4: which sizes each machine takes, what begin leaves, and what is refused. */
public final class BeginTest {
    private static final int[] KEY_SIZES = {10, 16, 8, 5};
    private static final int[] START_SIZES = {10, 12, 3, 0};

    private final Check check = new Check();

    public static void main(String[] args) {
        BeginTest test = new BeginTest();
        test.beginsWithKeyAndStart();
        test.emptyThen();
        test.machineTooSmall();
        test.machineTooLarge();
        test.keyTooShortOrTooLong();
        test.startTooShortOrTooLong();
        test.everySize();
        test.refusedBeginKeepsTheMachine();
        test.refusedBeginKeepsKeyAndStart();
        test.theOneBeforeIsGone();
        test.theSameAgain();
        test.check.end();
    }

    private static boolean fits(int machine, int key, int start) {
        switch (machine) {
            case 0:
                return key == 10 && start == 10;
            case 1:
                return key == 16 && start == 12;
            case 2:
                return key == 8 && start == 3;
            case 3:
                return key >= 5 && key <= 32 && start == 0;
            default:
                return false;
        }
    }

    private void beginsWithKeyAndStart() {
        check.says("A machine begins with key and start");
        for (int machine = 0; machine < 4; machine++) {
            BitStreams x = new BitStreams();
            Feed.key(x, Feed.KEYS[machine]);
            Feed.start(x, Feed.STARTS[machine]);
            check.due("begin(" + machine + ")", x.begin(machine), true);
            check.due("count(2)", x.count(2), machine);
            check.due("count(3)", x.count(3), 0);
            check.due("its bits", x.bits(64), Feed.modelBegun(machine).bits(64));
        }
    }

    private void emptyThen() {
        check.says("which are empty then");
        for (int machine = 0; machine < 4; machine++) {
            BitStreams x = Feed.begun(machine);
            check.counts("begun", x, 0, 0, machine, 0);
            for (int other = 0; other < 4; other++) {
                check.due("begin(" + other + ") with nothing", x.begin(other), false);
            }
            check.counts("begun with nothing", x, 0, 0, machine, 0);
            check.due("key of 5", x.key(0x0102030405L, 5), true);
            check.due("begin(3)", x.begin(3), true);
            check.due("nothing of the key before is left", Feed.hexOf(x, 8), "b2396305f03dc027");
        }
    }

    private void machineTooSmall() {
        check.says("false if there is no such machine [too small]");
        noSuchMachine(new int[] {-1, -2, -3, -4, -256, Integer.MIN_VALUE, Integer.MIN_VALUE + 3});
    }

    private void machineTooLarge() {
        check.says("false if there is no such machine [too large]");
        noSuchMachine(new int[] {4, 5, 7, 8, 256, 259, 65536, Integer.MAX_VALUE});
    }

    private void noSuchMachine(int[] machines) {
        for (int machine : machines) {
            String call = "begin(" + machine + ")";
            for (int fitting = 0; fitting < 4; fitting++) {
                BitStreams x = Feed.holding(KEY_SIZES[fitting], START_SIZES[fitting]);
                check.due(call, x.begin(machine), false);
                check.counts(call, x, KEY_SIZES[fitting], START_SIZES[fitting], -1, 0);
                check.due(call + " and then bits(64)", x.bits(64), 0);
            }
            BitStreams x = Feed.begun(3);
            Feed.key(x, Feed.KEYS[3]);
            check.due(call, x.begin(machine), false);
            check.counts(call, x, 5, 0, 3, 0);
        }
    }

    private void keyTooShortOrTooLong() {
        check.says("or they have not as many bytes [key]");
        for (int machine = 0; machine < 3; machine++) {
            for (int more = -1; more <= 1; more++) {
                beginWith(machine, KEY_SIZES[machine] + more, START_SIZES[machine], more == 0);
            }
            beginWith(machine, 0, START_SIZES[machine], false);
            beginWith(machine, 32, START_SIZES[machine], false);
        }
        beginWith(3, 0, 0, false);
        beginWith(3, 1, 0, false);
        beginWith(3, 4, 0, false);
        for (int size = 5; size <= 32; size++) {
            beginWith(3, size, 0, true);
        }
    }

    private void startTooShortOrTooLong() {
        check.says("or they have not as many bytes [start]");
        beginWith(0, 10, 0, false);
        beginWith(0, 10, 9, false);
        beginWith(0, 10, 11, false);
        beginWith(0, 10, 12, false);
        beginWith(1, 16, 0, false);
        beginWith(1, 16, 11, false);
        beginWith(2, 8, 0, false);
        beginWith(2, 8, 2, false);
        beginWith(2, 8, 4, false);
        beginWith(2, 8, 12, false);
        beginWith(3, 5, 1, false);
        beginWith(3, 32, 1, false);
        beginWith(3, 16, 12, false);
    }

    private void everySize() {
        check.says("false if there is no such machine, or they have not as many bytes");
        for (int machine = -2; machine <= 6; machine++) {
            for (int key = 0; key <= 32; key++) {
                for (int start = 0; start <= 12; start++) {
                    beginWith(machine, key, start, fits(machine, key, start));
                }
            }
        }
    }

    private void beginWith(int machine, int key, int start, boolean due) {
        BitStreams x = Feed.holding(key, start);
        String call = "begin(" + machine + ") with " + key + " and " + start;
        check.due(call, x.begin(machine), due);
        if (due) {
            check.counts(call, x, 0, 0, machine, 0);
        } else {
            check.counts(call, x, key, start, -1, 0);
        }
    }

    private void refusedBeginKeepsTheMachine() {
        check.says("A call that is refused changes nothing [begin: the machine goes on]");
        for (int machine = 0; machine < 4; machine++) {
            BitStreams x = Feed.begun(machine);
            PlainModel model = Feed.modelBegun(machine);
            check.due("first bits", x.bits(13), model.bits(13));
            x.key(0x55L, 1);
            x.start(0xaaL, 1);
            for (int other = -1; other <= 4; other++) {
                check.due("begin(" + other + ")", x.begin(other), false);
            }
            check.counts("after refused begins", x, 1, 1, machine, 13);
            check.due("the machine goes on", x.bits(64), model.bits(64));
        }
    }

    private void refusedBeginKeepsKeyAndStart() {
        check.says("A call that is refused changes nothing [begin: key and start stay]");
        for (int machine = 0; machine < 4; machine++) {
            BitStreams x = new BitStreams();
            int half = 2 * (KEY_SIZES[machine] / 2);
            Feed.key(x, Feed.KEYS[machine].substring(0, half));
            refusedBegins(x);
            Feed.key(x, Feed.KEYS[machine].substring(half));
            refusedBegins(x);
            Feed.start(x, Feed.STARTS[machine]);
            refusedBegins(x);
            check.due("begin(" + machine + ")", x.begin(machine), true);
            check.due("its bits", x.bits(64), Feed.modelBegun(machine).bits(64));
        }
    }

    private void refusedBegins(BitStreams x) {
        int key = x.count(0);
        int start = x.count(1);
        for (int machine = -1; machine <= 4; machine++) {
            if (!fits(machine, key, start)) {
                check.due("begin(" + machine + ")", x.begin(machine), false);
                check.counts("begin(" + machine + ")", x, key, start, -1, 0);
            }
        }
    }

    private void theOneBeforeIsGone() {
        check.says("The one before is gone");
        for (int before = 0; before < 4; before++) {
            for (int after = 0; after < 4; after++) {
                BitStreams x = Feed.begun(before);
                x.bits(3);
                x.skip(777);
                Feed.key(x, Feed.KEYS[after]);
                Feed.start(x, Feed.STARTS[after]);
                check.due("begin(" + after + ")", x.begin(after), true);
                check.counts("begin(" + after + ")", x, 0, 0, after, 0);
                check.due("again without a key", x.begin(after), false);
                PlainModel model = Feed.modelBegun(after);
                check.due(after + " behind " + before, x.bits(64), model.bits(64));
                check.due(after + " behind " + before, x.bits(64), model.bits(64));
            }
        }
    }

    private void theSameAgain() {
        check.says("The one before is gone [the same machine, within a byte]");
        for (int machine = 0; machine < 4; machine++) {
            BitStreams x = Feed.begun(machine);
            long due = x.bits(64);
            for (int given = 0; given <= 9; given++) {
                x.skip(given);
                Feed.key(x, Feed.KEYS[machine]);
                Feed.start(x, Feed.STARTS[machine]);
                check.due("begin(" + machine + ")", x.begin(machine), true);
                check.due("count(3)", x.count(3), 0);
                check.due("the same bits from the first on", x.bits(64), due);
            }
        }
    }
}
