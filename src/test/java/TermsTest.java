/** The edges that the document's terms name: sizes, wrap-arounds, memory and the number of calls. */
public final class TermsTest {
    private static final int MOST_CALLS = 512;

    private final Check check = new Check();

    public static void main(String[] args) {
        TermsTest test = new TermsTest();
        test.sizesOfThreeRings();
        test.sizesOfTwoRegisters();
        test.sizesOfThreeThatStop();
        test.sizesOfExchanges();
        test.lastTwentyTwoBits();
        test.keyModuloTheirNumber();
        test.placesModulo256();
        test.restOfAByte();
        test.ownMemory();
        test.fiveHundredAndTwelveCalls();
        test.check.end();
    }

    private void sizesOfThreeRings() {
        check.says("0 THREE RINGS: key and start of 10 bytes");
        begins(0, 10, 10, true);
        begins(0, 9, 10, false);
        begins(0, 11, 10, false);
        begins(0, 10, 9, false);
        begins(0, 10, 11, false);
        begins(0, 0, 0, false);
    }

    private void sizesOfTwoRegisters() {
        check.says("1 TWO REGISTERS: key of 16 bytes, start of 12");
        begins(1, 16, 12, true);
        begins(1, 15, 12, false);
        begins(1, 17, 12, false);
        begins(1, 16, 11, false);
        begins(1, 12, 12, false);
        begins(1, 0, 0, false);
    }

    private void sizesOfThreeThatStop() {
        check.says("2 THREE THAT STOP: key of 8 bytes, start of 3");
        begins(2, 8, 3, true);
        begins(2, 7, 3, false);
        begins(2, 9, 3, false);
        begins(2, 8, 2, false);
        begins(2, 8, 4, false);
        begins(2, 0, 0, false);
    }

    private void sizesOfExchanges() {
        check.says("3 EXCHANGES: key of 5 .. 32 bytes, no start");
        begins(3, 5, 0, true);
        begins(3, 32, 0, true);
        begins(3, 4, 0, false);
        begins(3, 0, 0, false);
        begins(3, 5, 1, false);
        begins(3, 32, 12, false);
    }

    private void begins(int machine, int keySize, int startSize, boolean due) {
        BitStreams x = Feed.holding(keySize, startSize);
        String call = "begin(" + machine + ") with " + keySize + " and " + startSize;
        check.due(call, x.begin(machine), due);
        check.due(call + ": count(2)", x.count(2), due ? machine : -1);
        check.due(call + ": skip(0)", x.skip(0), due);
    }

    private void lastTwentyTwoBits() {
        check.says("start of 3, of which the last 22 bits count");
        long due = Feed.begun(2, Feed.KEYS[2], "2f5a35").bits(64);
        check.due("without the first bit", Feed.begun(2, Feed.KEYS[2], "af5a35").bits(64), due);
        check.due("without the second bit", Feed.begun(2, Feed.KEYS[2], "6f5a35").bits(64), due);
        check.due("without both", Feed.begun(2, Feed.KEYS[2], "ef5a35").bits(64), due);
        for (int bit = 0; bit < 22; bit++) {
            String start = String.format("%06x", 0x2f5a35 ^ 1 << bit);
            boolean alike = Feed.begun(2, Feed.KEYS[2], start).bits(64) == due;
            check.due("alike with another start, " + start, alike, false);
        }
    }

    private void keyModuloTheirNumber() {
        check.says("key byte i modulo their number");
        for (int size = 5; size <= 16; size++) {
            String key = "f1e2d3c4b5a69788796a5b4c3d2e1f00".substring(0, 2 * size);
            String due = Feed.hexOf(Feed.begun(3, key, ""), 40);
            for (int times = 2; times * size <= 32; times++) {
                check.due(size + " bytes " + times + " times",
                        Feed.hexOf(Feed.begun(3, key.repeat(times), ""), 40), due);
            }
        }
        for (int size = 5; size <= 32; size++) {
            BitStreams x = new BitStreams();
            PlainModel model = new PlainModel();
            for (int i = 0; i < size; i++) {
                x.key(255 - 7 * i, 1);
                model.key(255 - 7 * i, 1);
            }
            x.begin(3);
            model.begin(3);
            check.due("stream of a key of " + size, x.bits(64), model.bits(64));
        }
    }

    private void placesModulo256() {
        check.says("i = i + 1, j = j + what i holds (modulo 256)");
        publishedAt(240, "28cb1132c96ce286421dcaadb8b69eae");
        publishedAt(256, "1cfcf62b03eddb641d77dfcf7f8d8c93");
        publishedAt(496, "42b7d0cdd918a8a33dd51781c81f4041");
        publishedAt(512, "6459844432a7da923cfb3eb4980661f6");
        publishedAt(1024, "30abbcc7c20b01609f23ee2d5f6bb7df");
        publishedAt(4096, "ff25b58995996707e51fbdf08b34d875");
    }

    private void publishedAt(int place, String due) {
        BitStreams x = Feed.begun(3, "0102030405", "");
        for (int i = 0; i < 8; i++) {
            x.skip(place);
        }
        check.due("RC4 from byte " + place + " on", Feed.hexOf(x, 16), due);
    }

    private void restOfAByte() {
        check.says("A step gives a byte (its bits from the highest on)");
        long due = 0xb2396305f03dc027L;
        for (int first = 1; first <= 16; first++) {
            BitStreams given = Feed.begun(3, "0102030405", "");
            check.due("bits(" + first + ")", given.bits(first), due >>> 64 - first);
            check.due("behind " + first + " given", given.bits(9), due << first >>> 55);
            BitStreams lost = Feed.begun(3, "0102030405", "");
            lost.bits(3);
            lost.skip(first);
            check.due("behind 3 given and " + first + " lost", lost.bits(9), due << first + 3 >>> 55);
            BitStreams mixed = Feed.begun(3, "0102030405", "");
            mixed.mix(-1L, first);
            check.due("behind " + first + " mixed", mixed.mix(0L, 9), due << first >>> 55);
        }
    }

    private void ownMemory() {
        check.says("All memory is the class's own");
        for (int machine = 0; machine < 4; machine++) {
            for (int beside = 0; beside < 4; beside++) {
                BitStreams one = new BitStreams();
                BitStreams other = new BitStreams();
                Feed.key(one, Feed.KEYS[machine]);
                Feed.key(other, "a7".repeat(Feed.KEYS[beside].length() / 2));
                Feed.start(one, Feed.STARTS[machine]);
                Feed.start(other, "7a".repeat(Feed.STARTS[beside].length() / 2));
                check.due("begin(" + machine + ")", one.begin(machine), true);
                check.due("begin(" + beside + ") of another", other.begin(beside), true);
                PlainModel model = Feed.modelBegun(machine);
                for (int n = 3; n <= 64; n += 7) {
                    check.due(machine + " beside " + beside, one.bits(n), model.bits(n));
                    other.bits(n + 1 & 63);
                    other.key(n, 1);
                }
                check.counts(machine + " beside " + beside, one, 0, 0, machine, model.count(3));
            }
        }
    }

    private void fiveHundredAndTwelveCalls() {
        check.says("An object is used for at most 512 calls after it has been made");
        for (int machine = 0; machine < 4; machine++) {
            BitStreams x = new BitStreams();
            Feed.key(x, Feed.KEYS[machine]);
            Feed.start(x, Feed.STARTS[machine]);
            x.begin(machine);
            int calls = (Feed.KEYS[machine].length() + Feed.STARTS[machine].length()) / 2 + 1;
            PlainModel model = Feed.modelBegun(machine);
            for (; calls < MOST_CALLS - 2; calls++) {
                check.due("skip(5000) is call " + (calls + 1), x.skip(5000), model.skip(5000));
            }
            check.due("count(3) is call 511", x.count(3), model.count(3));
            check.due("bits(64) is call 512", x.bits(64), model.bits(64));
        }
        beginsOverAndOver();
    }

    private void beginsOverAndOver() {
        BitStreams x = new BitStreams();
        for (int call = 1; call + 2 < MOST_CALLS; call += 3) {
            check.due("key is call " + call, x.key(0x0102030405L, 5), true);
            check.due("begin(3) is call " + (call + 1), x.begin(3), true);
            check.due("bits(64) is call " + (call + 2), x.bits(64), 0xb2396305f03dc027L);
        }
    }
}
