import java.util.Random;

/** All promises together: runs of up to 512 calls, right and wrong ones, against the plain model. */
public final class RunsTest {
    private static final int RUNS = 400;
    // Less than 512 by what one preparation may add behind the last look at the number.
    private static final int CALLS = 450;
    private static final int[] KEY_SIZES = {10, 16, 8, 5};
    private static final int[] START_SIZES = {10, 12, 3, 0};

    private final Check check = new Check();
    private final Random random = new Random(20261115L);
    private BitStreams x;
    private PlainModel model;
    private int calls;

    public static void main(String[] args) {
        RunsTest test = new RunsTest();
        for (int run = 0; run < RUNS; run++) {
            test.run();
        }
        test.check.end();
    }

    // A run ends early when bytes that fit no machine stand in the way: nothing takes them back.
    private void run() {
        x = new BitStreams();
        model = new PlainModel();
        calls = 0;
        boolean clogged = false;
        while (calls < CALLS && !clogged) {
            if (calls == 0 || random.nextInt(12) == 0) {
                prepare(random.nextInt(4));
                clogged = model.count(0) + model.count(1) > 0;
            } else {
                anyCall();
            }
        }
    }

    private void prepare(int machine) {
        int keySize = KEY_SIZES[machine] + (machine == 3 ? random.nextInt(28) : 0);
        while (model.count(0) < keySize) {
            key(random.nextLong(), 1 + random.nextInt(Math.min(8, keySize - model.count(0))));
        }
        while (model.count(1) < START_SIZES[machine]) {
            start(random.nextLong(), 1 + random.nextInt(Math.min(8, START_SIZES[machine] - model.count(1))));
        }
        begin(machine);
        for (int what = 0; what < 4; what++) {
            count(what);
        }
    }

    private void anyCall() {
        int n = random.nextInt(70) - 2;
        switch (random.nextInt(16)) {
            case 0:
                if (random.nextInt(8) == 0) {
                    key(random.nextLong(), random.nextInt(11) - 1);
                }
                break;
            case 1:
                if (random.nextInt(8) == 0) {
                    start(random.nextLong(), random.nextInt(11) - 1);
                }
                break;
            case 2:
                begin(random.nextInt(6) - 1);
                break;
            case 3:
            case 4:
                int much = random.nextInt(10) == 0 ? 4990 + random.nextInt(20) : n;
                calls++;
                check.due("skip(" + much + ")", x.skip(much), model.skip(much));
                break;
            case 5:
            case 6:
            case 7:
            case 8:
                long v = random.nextLong();
                calls++;
                check.due("mix(" + v + ", " + n + ")", x.mix(v, n), model.mix(v, n));
                break;
            case 9:
                count(random.nextInt(7) - 2);
                break;
            default:
                calls++;
                check.due("bits(" + n + ")", x.bits(n), model.bits(n));
                break;
        }
    }

    private void key(long v, int n) {
        calls++;
        check.due("key(" + v + ", " + n + ")", x.key(v, n), model.key(v, n));
    }

    private void start(long v, int n) {
        calls++;
        check.due("start(" + v + ", " + n + ")", x.start(v, n), model.start(v, n));
    }

    private void begin(int machine) {
        calls++;
        check.due("begin(" + machine + ")", x.begin(machine), model.begin(machine));
    }

    private void count(int what) {
        calls++;
        check.due("count(" + what + ")", x.count(what), model.count(what));
    }
}
