/** Promise 4: which sizes each machine takes, what begin leaves, and what is refused. */
public final class BeginTest {
    public static void main(String[] args) {
        Check check = new Check();
        everySize(check);
        noSuchMachine(check);
        refusedBeginChangesNothing(check);
        theOneBeforeIsGone(check);
        unusedBitsOfTheStart(check);
        check.end();
    }

    private static boolean fits(int machine, int key, int start) {
        switch (machine) {
            case 0:
                return key == 10 && start == 10;
            case 1:
                return key == 16 && start == 12;
            case 2:
                return key == 8 && start == 3;
            case 3:
                return key >= 5 && key <= 32 && start == 0;
            default:
                return false;
        }
    }

    private static void everySize(Check check) {
        for (int machine = -2; machine <= 6; machine++) {
            for (int key = 0; key <= 32; key++) {
                for (int start = 0; start <= 12; start++) {
                    BitStreams x = new BitStreams();
                    Feed.key(x, "5a".repeat(key));
                    Feed.start(x, "c3".repeat(start));
                    boolean due = fits(machine, key, start);
                    String call = "begin(" + machine + ") with " + key + " and " + start;
                    check.due(call, x.begin(machine), due);
                    if (due) {
                        check.counts(call, x, 0, 0, machine, 0);
                    } else {
                        check.counts(call, x, key, start, -1, 0);
                    }
                }
            }
        }
    }

    private static void noSuchMachine(Check check) {
        for (int machine : new int[] {-1, 4, 5, 256, Integer.MIN_VALUE, Integer.MAX_VALUE}) {
            BitStreams x = Feed.begun(3);
            Feed.key(x, Feed.KEYS[3]);
            check.due("begin(" + machine + ")", x.begin(machine), false);
            check.counts("begin(" + machine + ")", x, 5, 0, 3, 0);
        }
    }

    private static void refusedBeginChangesNothing(Check check) {
        for (int machine = 0; machine < 4; machine++) {
            BitStreams x = Feed.begun(machine);
            PlainModel model = Feed.modelBegun(machine);
            check.due("first bits", x.bits(13), model.bits(13));
            x.key(0x55L, 1);
            x.start(0xaaL, 1);
            for (int other = -1; other <= 4; other++) {
                check.due("begin(" + other + ")", x.begin(other), false);
            }
            check.counts("after refused begins", x, 1, 1, machine, 13);
            check.due("the machine goes on", x.bits(64), model.bits(64));
        }
    }

    private static void theOneBeforeIsGone(Check check) {
        for (int before = 0; before < 4; before++) {
            for (int after = 0; after < 4; after++) {
                BitStreams x = Feed.begun(before);
                x.bits(3);
                x.skip(777);
                Feed.key(x, Feed.KEYS[after]);
                Feed.start(x, Feed.STARTS[after]);
                check.due("begin(" + after + ")", x.begin(after), true);
                check.counts("begin(" + after + ")", x, 0, 0, after, 0);
                check.due("again without a key", x.begin(after), false);
                PlainModel model = Feed.modelBegun(after);
                check.due(after + " behind " + before, x.bits(64), model.bits(64));
                check.due(after + " behind " + before, x.bits(64), model.bits(64));
            }
        }
    }

    private static void unusedBitsOfTheStart(Check check) {
        long due = Feed.begun(2, Feed.KEYS[2], "2f5a35").bits(64);
        check.due("first bit of the start", Feed.begun(2, Feed.KEYS[2], "af5a35").bits(64), due);
        check.due("second bit of the start", Feed.begun(2, Feed.KEYS[2], "6f5a35").bits(64), due);
        boolean alike = Feed.begun(2, Feed.KEYS[2], "0f5a35").bits(64) == due;
        check.due("the third bit counts", alike, false);
    }
}
