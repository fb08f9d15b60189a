import java.util.ArrayList;
import java.util.List;

/**
 * "A call that is refused changes nothing": in each of many states, each kind of refused call and then each kind
 * of other call; all that can be read from then on is the same as of a twin that had no refused call.
 */
public final class RefusedCallsTest {
    private static final int STATES = 23;
    private static final int STATES_WITHOUT_MACHINE = 7;
    private static final int[] KEY_SIZES = {10, 16, 8, 5};
    private static final int[] START_SIZES = {10, 12, 3, 0};

    private final Check check = new Check();
    private final List<Call> wrong = new ArrayList<>();
    private final List<Call> others = new ArrayList<>();

    public static void main(String[] args) {
        RefusedCallsTest test = new RefusedCallsTest();
        test.check.says("A call that is refused changes nothing");
        test.gatherCalls();
        for (int state = 0; state < STATES; state++) {
            for (Call refused : test.wrong) {
                test.everyOtherCallBehind(state, refused);
            }
            test.allRefusedTogether(state);
        }
        test.check.end();
    }

    // Those with a width that is right are refused in some states only: a full key, no machine, other sizes.
    private void gatherCalls() {
        gather(wrong, "key", -2L, 0, 9, 1, 8, -1, Integer.MIN_VALUE, Integer.MAX_VALUE);
        gather(wrong, "start", -2L, 0, 9, 1, 8, -1, Integer.MIN_VALUE, Integer.MAX_VALUE);
        gather(wrong, "begin", 0L, 0, 1, 2, 3, -1, 4, Integer.MIN_VALUE, Integer.MAX_VALUE);
        gather(wrong, "bits", 0L, 0, 65, 1, 64, -1, Integer.MIN_VALUE, Integer.MAX_VALUE);
        gather(wrong, "skip", 0L, 0, 5001, 1, 5000, -1, Integer.MIN_VALUE, Integer.MAX_VALUE);
        gather(wrong, "mix", 0x123456789abcdefL, 0, 65, 1, 64, -1, Integer.MIN_VALUE, Integer.MAX_VALUE);
        gather(wrong, "count", 0L, -1, 4, Integer.MIN_VALUE, Integer.MAX_VALUE);

        gather(others, "key", 0x8899aabbccddeeffL, 1, 8, 9);
        gather(others, "start", 0x8899aabbccddeeffL, 1, 8, 0);
        gather(others, "begin", 0L, 0, 1, 2, 3);
        gather(others, "bits", 0L, 1, 64);
        gather(others, "skip", 0L, 0, 5000);
        gather(others, "mix", -1L, 1, 64);
        gather(others, "count", 0L, 0, 1, 2, 3);
    }

    private static void gather(List<Call> calls, String name, long v, int... widths) {
        for (int n : widths) {
            calls.add(new Call(name, v, n));
        }
    }

    private static BitStreams inState(int state) {
        switch (state) {
            case 0:
                return new BitStreams();
            case 1:
                return Feed.holding(4, 0);
            case 2:
                return Feed.holding(32, 0);
            case 3:
                return Feed.holding(0, 12);
            case 4:
                return Feed.holding(15, 12);
            case 5:
                return Feed.holding(10, 9);
            case 6:
                return Feed.holding(32, 12);
            default:
                int running = state - STATES_WITHOUT_MACHINE;
                return running(running / 4, running % 4);
        }
    }

    private static BitStreams running(int machine, int how) {
        BitStreams x = Feed.begun(machine);
        if (how >= 1) {
            x.bits(13);
        }
        if (how == 2) {
            x.key(0x1122334455667788L, 8);
            x.start(0x99aaL, 2);
        }
        if (how == 3) {
            for (int i = 0; i < 4; i++) {
                x.key(0x1122334455667788L + i, 8);
            }
            x.skip(3);
        }
        return x;
    }

    private void everyOtherCallBehind(int state, Call refused) {
        if (!refused.isRefused(inState(state))) {
            return;
        }
        for (Call other : others) {
            BitStreams x = inState(state);
            BitStreams twin = inState(state);
            String where = "state " + state + ", " + refused + ", " + other;
            check.due(where + ": the refused call", refused.answer(x), refused.answerIfRefused());
            check.due(where + ": the other call", other.answer(x), other.answer(twin));
            sameFromThenOn(where, x, twin);
        }
    }

    private void allRefusedTogether(int state) {
        BitStreams x = inState(state);
        for (Call refused : wrong) {
            if (refused.isRefused(inState(state))) {
                check.due("state " + state + ", " + refused, refused.answer(x), refused.answerIfRefused());
            }
        }
        sameFromThenOn("state " + state + ", all that are refused", x, inState(state));
    }

    private void sameFromThenOn(String where, BitStreams x, BitStreams twin) {
        sameCounts(where, x, twin);
        check.due(where + ": bits(64)", x.bits(64), twin.bits(64));
        check.due(where + ": mix(-1, 5)", x.mix(-1L, 5), twin.mix(-1L, 5));
        check.due(where + ": skip(9)", x.skip(9), twin.skip(9));
        check.due(where + ": bits(64)", x.bits(64), twin.bits(64));
        sameCounts(where, x, twin);
        int machine = machineThatCanTake(twin.count(0), twin.count(1));
        if (machine >= 0) {
            fillUp(x, machine);
            fillUp(twin, machine);
            check.due(where + ": begin(" + machine + ")", x.begin(machine), true);
            check.due(where + ": begin(" + machine + ")", twin.begin(machine), true);
            check.due(where + ": what key and start held", x.bits(64), twin.bits(64));
            sameCounts(where, x, twin);
        }
    }

    private void sameCounts(String where, BitStreams x, BitStreams twin) {
        for (int what = 0; what < 4; what++) {
            check.due(where + ": count(" + what + ")", x.count(what), twin.count(what));
        }
    }

    // What key and start hold can be seen only through a machine that begins with them.
    private static int machineThatCanTake(int keySize, int startSize) {
        for (int machine = 2; machine >= 0; machine--) {
            if (startSize > 0 && keySize <= KEY_SIZES[machine] && startSize <= START_SIZES[machine]) {
                return machine;
            }
        }
        return startSize == 0 ? 3 : -1;
    }

    private static void fillUp(BitStreams x, int machine) {
        for (int size = x.count(0); size < KEY_SIZES[machine]; size++) {
            x.key(31 * size + 1, 1);
        }
        for (int size = x.count(1); size < START_SIZES[machine]; size++) {
            x.start(37 * size + 2, 1);
        }
    }
}
