/** One call of the class's face, and whether the document refuses it in the state that an object is in. */
record Call(String name, long v, int n) {
    private static final int[] KEY_SIZES = {10, 16, 8};
    private static final int[] START_SIZES = {10, 12, 3};

    long answer(BitStreams x) {
        switch (name) {
            case "key":
                return x.key(v, n) ? 1 : 0;
            case "start":
                return x.start(v, n) ? 1 : 0;
            case "begin":
                return x.begin(n) ? 1 : 0;
            case "bits":
                return x.bits(n);
            case "skip":
                return x.skip(n) ? 1 : 0;
            case "mix":
                return x.mix(v, n);
            default:
                return x.count(n);
        }
    }

    boolean isRefused(BitStreams x) {
        int keySize = x.count(0);
        int startSize = x.count(1);
        boolean none = x.count(2) == -1;
        switch (name) {
            case "key":
                return n < 1 || n > 8 || keySize > 32 - n;
            case "start":
                return n < 1 || n > 8 || startSize > 12 - n;
            case "begin":
                return !fits(keySize, startSize);
            case "skip":
                return none || n < 0 || n > 5000;
            case "count":
                return n < 0 || n > 3;
            default:
                return none || n < 1 || n > 64;
        }
    }

    private boolean fits(int keySize, int startSize) {
        if (n == 3) {
            return keySize >= 5 && startSize == 0;
        }
        return n >= 0 && n < 3 && keySize == KEY_SIZES[n] && startSize == START_SIZES[n];
    }

    long answerIfRefused() {
        return name.equals("count") ? -1 : 0;
    }

    @Override
    public String toString() {
        boolean twoArguments = name.equals("key") || name.equals("start") || name.equals("mix");
        return name + "(" + (twoArguments ? v + ", " : "") + n + ")";
    }
}
