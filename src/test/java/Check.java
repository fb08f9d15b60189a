/** Compares answers with those that are due, and ends the test with exit code 1 if one was not. */
final class Check {
    private static final int MOST_TOLD = 20;
    private int done = 0;
    private int wrong = 0;
    private String sentence = "";

    /** The document's sentence that the answers from here on are held against. */
    void says(String words) {
        sentence = words;
    }

    void due(String call, long got, long want) {
        done++;
        if (got != want) {
            tell(call + " answered " + got + ", due is " + want);
        }
    }

    void due(String call, boolean got, boolean want) {
        due(call, got ? 1L : 0L, want ? 1L : 0L);
    }

    void due(String call, String got, String want) {
        done++;
        if (!got.equals(want)) {
            tell(call + " answered " + got + ", due is " + want);
        }
    }

    void counts(String when, BitStreams x, int keyBytes, int startBytes, int machine, int used) {
        due(when + ": count(0)", x.count(0), keyBytes);
        due(when + ": count(1)", x.count(1), startBytes);
        due(when + ": count(2)", x.count(2), machine);
        due(when + ": count(3)", x.count(3), used);
    }

    private void tell(String what) {
        wrong++;
        if (wrong <= MOST_TOLD) {
            System.out.println(sentence.isEmpty() ? what : "\"" + sentence + "\": " + what);
        }
    }

    void end() {
        System.out.println(done + " answers, " + wrong + " of them not as due");
        if (wrong != 0) {
            System.exit(1);
        }
    }
}
