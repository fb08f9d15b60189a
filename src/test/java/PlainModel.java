import java.util.ArrayList;
import java.util.List;

/**
 * The document word by word, with one array element for each cell and every cell carried on at each step:
 * slow, but made apart from the class that it is compared with.
 */
final class PlainModel {
    private final List<Integer> key = new ArrayList<>();
    private final List<Integer> start = new ArrayList<>();
    private int machine = -1;
    private int used = 0;

    private int[] s;
    private int[] b;
    private int[] x;
    private int[] y;
    private int[] z;
    private int[] row;
    private int i;
    private int j;
    private final List<Integer> waiting = new ArrayList<>();

    boolean key(long v, int n) {
        return append(key, v, n, 32);
    }

    boolean start(long v, int n) {
        return append(start, v, n, 12);
    }

    private static boolean append(List<Integer> to, long v, int n, int limit) {
        if (n < 1 || n > 8 || to.size() + n > limit) {
            return false;
        }
        int end = to.size();
        long rest = v;
        for (int k = 0; k < n; k++) {
            to.add(end, (int) Math.floorMod(rest, 256L));
            rest = Math.floorDiv(rest, 256L);
        }
        return true;
    }

    boolean begin(int wanted) {
        int k = key.size();
        int st = start.size();
        boolean fits = wanted == 0 && k == 10 && st == 10
                || wanted == 1 && k == 16 && st == 12
                || wanted == 2 && k == 8 && st == 3
                || wanted == 3 && k >= 5 && k <= 32 && st == 0;
        if (!fits) {
            return false;
        }
        waiting.clear();
        if (wanted == 0) {
            beginRings();
        } else if (wanted == 1) {
            beginRegisters();
        } else if (wanted == 2) {
            beginThatStop();
        } else {
            beginExchanges();
        }
        machine = wanted;
        used = 0;
        key.clear();
        start.clear();
        return true;
    }

    long bits(int n) {
        if (machine < 0 || n < 1 || n > 64) {
            return 0;
        }
        long sum = 0;
        for (int k = 0; k < n; k++) {
            sum = sum * 2 + next();
        }
        return sum;
    }

    boolean skip(int n) {
        if (machine < 0 || n < 0 || n > 5000) {
            return false;
        }
        for (int k = 0; k < n; k++) {
            next();
        }
        return true;
    }

    long mix(long v, int n) {
        if (machine < 0 || n < 1 || n > 64) {
            return 0;
        }
        long sum = 0;
        for (int k = n - 1; k >= 0; k--) {
            long own = v >> k & 1;
            sum = sum * 2 + (own != next() ? 1 : 0);
        }
        return sum;
    }

    int count(int what) {
        return what == 0 ? key.size() : what == 1 ? start.size() : what == 2 ? machine : what == 3 ? used : -1;
    }

    private int next() {
        used++;
        if (machine == 0) {
            return stepRings();
        }
        if (machine == 1) {
            int given = outputOfRegisters();
            moveRegisters(0);
            return given;
        }
        if (machine == 2) {
            return stepThatStop();
        }
        if (waiting.isEmpty()) {
            int value = stepExchanges();
            for (int k = 7; k >= 0; k--) {
                waiting.add(value >> k & 1);
            }
        }
        return waiting.remove(0);
    }

    private static int[] bitsOf(List<Integer> bytes) {
        int[] all = new int[8 * bytes.size()];
        for (int k = 0; k < all.length; k++) {
            all[k] = bytes.get(k / 8) / (1 << 7 - k % 8) % 2;
        }
        return all;
    }

    private void beginRings() {
        s = new int[289];
        int[] keyBits = bitsOf(key);
        int[] startBits = bitsOf(start);
        for (int k = 1; k <= 80; k++) {
            s[k] = keyBits[k - 1];
            s[93 + k] = startBits[k - 1];
        }
        s[286] = 1;
        s[287] = 1;
        s[288] = 1;
        for (int k = 0; k < 1152; k++) {
            stepRings();
        }
    }

    private int stepRings() {
        int t1 = (s[66] + s[93]) % 2;
        int t2 = (s[162] + s[177]) % 2;
        int t3 = (s[243] + s[288]) % 2;
        int given = (t1 + t2 + t3) % 2;
        t1 = (t1 + s[91] * s[92] + s[171]) % 2;
        t2 = (t2 + s[175] * s[176] + s[264]) % 2;
        t3 = (t3 + s[286] * s[287] + s[69]) % 2;
        int[] then = new int[289];
        for (int k = 2; k <= 288; k++) {
            then[k] = s[k - 1];
        }
        then[1] = t3;
        then[94] = t1;
        then[178] = t2;
        s = then;
        return given;
    }

    private void beginRegisters() {
        b = bitsOf(key);
        s = new int[128];
        int[] startBits = bitsOf(start);
        for (int k = 0; k < 127; k++) {
            s[k] = k < 96 ? startBits[k] : 1;
        }
        for (int k = 0; k < 256; k++) {
            moveRegisters(outputOfRegisters());
        }
    }

    private int outputOfRegisters() {
        int sum = b[12] * s[8] + s[13] * s[20] + b[95] * s[42] + s[60] * s[79] + b[12] * b[95] * s[94] + s[93];
        for (int k : new int[] {2, 15, 36, 45, 64, 73, 89}) {
            sum += b[k];
        }
        return sum % 2;
    }

    private void moveRegisters(int added) {
        int newS = added;
        for (int k : new int[] {0, 7, 38, 70, 81, 96}) {
            newS += s[k];
        }
        int newB = added + s[0];
        for (int k : new int[] {0, 26, 56, 91, 96}) {
            newB += b[k];
        }
        int[][] products = {{3, 67}, {11, 13}, {17, 18}, {27, 59}, {40, 48}, {61, 65}, {68, 84},
            {88, 92, 93, 95}, {22, 24, 25}, {70, 78, 82}};
        for (int[] places : products) {
            int product = 1;
            for (int k : places) {
                product *= b[k];
            }
            newB += product;
        }
        for (int k = 0; k < 127; k++) {
            s[k] = s[k + 1];
            b[k] = b[k + 1];
        }
        s[127] = newS % 2;
        b[127] = newB % 2;
    }

    private void beginThatStop() {
        x = new int[19];
        y = new int[22];
        z = new int[23];
        int[] keyBits = bitsOf(key);
        int[] startBits = bitsOf(start);
        for (int k = 0; k < 64 + 22; k++) {
            goOn(x, 13, 16, 17, 18);
            goOn(y, 20, 21);
            goOn(z, 7, 20, 21, 22);
            int bit = k < 64 ? keyBits[k] : startBits[k - 64 + 2];
            x[0] = (x[0] + bit) % 2;
            y[0] = (y[0] + bit) % 2;
            z[0] = (z[0] + bit) % 2;
        }
        for (int k = 0; k < 100; k++) {
            stepThatStop();
        }
    }

    private static void goOn(int[] register, int... places) {
        int sum = 0;
        for (int k : places) {
            sum += register[k];
        }
        for (int k = register.length - 1; k > 0; k--) {
            register[k] = register[k - 1];
        }
        register[0] = sum % 2;
    }

    private int stepThatStop() {
        boolean goesX = x[8] == y[10] || x[8] == z[10];
        boolean goesY = y[10] == x[8] || y[10] == z[10];
        boolean goesZ = z[10] == x[8] || z[10] == y[10];
        if (goesX) {
            goOn(x, 13, 16, 17, 18);
        }
        if (goesY) {
            goOn(y, 20, 21);
        }
        if (goesZ) {
            goOn(z, 7, 20, 21, 22);
        }
        return (x[18] + y[21] + z[22]) % 2;
    }

    private void beginExchanges() {
        row = new int[256];
        for (i = 0; i < 256; i++) {
            row[i] = i;
        }
        j = 0;
        for (i = 0; i < 256; i++) {
            j = (j + row[i] + key.get(i % key.size())) % 256;
            exchange();
        }
        i = 0;
        j = 0;
    }

    private int stepExchanges() {
        i = (i + 1) % 256;
        j = (j + row[i]) % 256;
        exchange();
        return row[(row[i] + row[j]) % 256];
    }

    private void exchange() {
        int held = row[i];
        row[i] = row[j];
        row[j] = held;
    }
}
