/**
 * Bell tones by numbers: four rows of numbers that go round by a prime, and what becomes of them
 * when they are turned into their tones, staged, mirrored, folded, joined, moved and multiplied.
 */
public final class ToneButterflies {
    private static final int ROWS = 4;
    private static final int LONGEST = 16;
    /** A fifth row, which no caller sees: results stand here until the rows they come from are read. */
    private static final int SCRATCH = ROWS;

    private static final int COUNTS = 6;
    private static final int ABOUTS = 5;

    private static final int SUMS = 0;
    private static final int DIFFERENCES = 1;
    private static final int JOINS = 3;

    /** All rows lie one behind the other, so that one test of the index guards every access. */
    private final int[] numbers = new int[(ROWS + 1) * LONGEST];

    private int length;
    private int prime;
    private int bits;
    private int unityRoot;
    private int unityRootInverse;
    private int lengthInverse;

    public ToneButterflies() {
        takeRing(8, 17);
    }

    // ---- the ring

    public int ring(int n, int p) throws IllegalArgumentException {
        if (!isLength(n) || !isPrimeOfRing(p) || !divides(n, p - 1)) {
            throw new IllegalArgumentException("no such ring");
        }
        takeRing(n, p);
        return unityRoot;
    }

    public int order(int number) throws IllegalArgumentException {
        requireInvertible(number);
        int exponent = 1;
        int power = number;
        while (power != 1 && exponent < prime) {
            power = reduced(power * number);
            exponent++;
        }
        return exponent;
    }

    public int inverse(int number) throws IllegalArgumentException {
        requireInvertible(number);
        return inverseOf(number);
    }

    public int root(int power) throws IllegalArgumentException {
        if (power < 0 || power > 9999) {
            throw new IllegalArgumentException("no such power");
        }
        return powerOf(unityRoot, power);
    }

    // ---- rows

    public int set(int row, int place, int number) throws IndexOutOfBoundsException, IllegalArgumentException {
        requireRow(row);
        requirePlace(place);
        requireNumber(number);
        int before = read(row, place);
        write(row, place, number);
        return before;
    }

    public int copy(int from, int to) throws IndexOutOfBoundsException {
        requireRow(from);
        requireRow(to);
        return copyRow(from, to);
    }

    public int turn(int row, boolean back) throws IndexOutOfBoundsException {
        requireRow(row);
        if (back) {
            scratchTurnedBack(row);
        } else {
            scratchTones(row);
        }
        copyRow(SCRATCH, row);
        return read(row, 0);
    }

    public int mirror(int row) throws IndexOutOfBoundsException {
        requireRow(row);
        for (int place = 0; place < length; place++) {
            write(SCRATCH, mirrored(place), read(row, place));
        }
        return copyRow(SCRATCH, row);
    }

    public int stage(int row, int stage) throws IndexOutOfBoundsException {
        requireRow(row);
        if (stage < 0 || stage >= bits) {
            throw new IndexOutOfBoundsException("no such stage");
        }
        int half = 1 << stage;
        for (int block = 0; block < length; block += 2 * half) {
            for (int j = 0; j < half; j++) {
                // n is a power of two, so n / (2 * h) is this shift, without a divisor
                int twiddle = powerOf(unityRoot, j * (length >> (stage + 1)));
                butterfly(row, block + j, block + j + half, twiddle);
            }
        }
        return read(row, 0);
    }

    public int fold(int a, int b) throws IndexOutOfBoundsException {
        requireRow(a);
        requireRow(b);
        for (int place = 0; place < length; place++) {
            write(SCRATCH, place, foldedAt(a, b, place));
        }
        copyRow(SCRATCH, a);
        return read(a, 0);
    }

    public int join(int a, int b, int what) throws IndexOutOfBoundsException {
        requireRow(a);
        requireRow(b);
        if (what < 0 || what >= JOINS) {
            throw new IndexOutOfBoundsException("no such way to join");
        }
        for (int place = 0; place < length; place++) {
            write(a, place, joined(read(a, place), read(b, place), what));
        }
        return nonZeros(a);
    }

    public int move(int row, int by) throws IndexOutOfBoundsException, IllegalArgumentException {
        requireRow(row);
        if (by < 0 || by >= length) {
            throw new IllegalArgumentException("no such number of places");
        }
        for (int place = 0; place < length; place++) {
            write(SCRATCH, wrapped(place + by), read(row, place));
        }
        copyRow(SCRATCH, row);
        return read(row, 0);
    }

    public int times(int row, int by) throws IndexOutOfBoundsException, IllegalArgumentException {
        requireRow(row);
        requireNumber(by);
        for (int place = 0; place < length; place++) {
            write(row, place, reduced(read(row, place) * by));
        }
        return nonZeros(row);
    }

    // ---- what there is

    public int at(int row, int place) throws IndexOutOfBoundsException {
        requireRow(row);
        requirePlace(place);
        return read(row, place);
    }

    public int point(int row, int x) throws IndexOutOfBoundsException, IllegalArgumentException {
        requireRow(row);
        requireNumber(x);
        return valueAt(row, x);
    }

    public int about(int row, int what) throws IndexOutOfBoundsException {
        requireRow(row);
        if (what < 0 || what >= ABOUTS) {
            throw new IndexOutOfBoundsException("no such thing to tell about a row");
        }
        return told(row, what);
    }

    public int count(int what) throws IndexOutOfBoundsException {
        if (what < 0 || what >= COUNTS) {
            throw new IndexOutOfBoundsException("no such thing to count");
        }
        return counted(what);
    }

    // ---- what would be

    public int would(int a, int b, int place) throws IndexOutOfBoundsException {
        requireRow(a);
        requireRow(b);
        requirePlace(place);
        return foldedAt(a, b, place);
    }

    public int comes(int a, int b) throws IndexOutOfBoundsException {
        requireRow(a);
        requireRow(b);
        for (int by = 0; by < length; by++) {
            if (isWhenMoved(a, by, b)) {
                return by;
            }
        }
        return -1;
    }

    public int advise(int a, int b) throws IndexOutOfBoundsException {
        requireRow(a);
        requireRow(b);
        int best = 0;
        int greatest = -1;
        for (int by = 0; by < length; by++) {
            int together = soundWhenMoved(a, by, b);
            if (together > greatest) {
                greatest = together;
                best = by;
            }
        }
        return best;
    }

    public boolean tones(int a, int b) throws IndexOutOfBoundsException {
        requireRow(a);
        requireRow(b);
        scratchTones(a);
        return isWhenMoved(SCRATCH, 0, b);
    }

    public double mean(int row) throws IndexOutOfBoundsException {
        requireRow(row);
        return length > 0 ? (double) plainSum(row) / (double) length : 0.0;
    }

    public long digest() {
        long d = 1777L;
        for (int what = 0; what < COUNTS; what++) {
            d = d * 31L + counted(what);
        }
        for (int row = 0; row < ROWS; row++) {
            d = digestRow(d, row);
            for (int what = 0; what < ABOUTS; what++) {
                d = d * 31L + told(row, what);
            }
            scratchTones(row);
            d = digestRow(d, SCRATCH);
        }
        return d;
    }

    // ---- what is refused

    private void requireRow(int row) {
        if (row < 0 || row >= ROWS) {
            throw new IndexOutOfBoundsException("no such row");
        }
    }

    private void requirePlace(int place) {
        if (place < 0 || place >= length) {
            throw new IndexOutOfBoundsException("no such place");
        }
    }

    private void requireNumber(int number) {
        if (number < 0 || number >= prime) {
            throw new IllegalArgumentException("no number of the ring");
        }
    }

    private void requireInvertible(int number) {
        if (number < 1 || number >= prime) {
            throw new IllegalArgumentException("no number of the ring other than 0");
        }
    }

    // ---- making a ring

    private static boolean isLength(int n) {
        return n == 4 || n == 8 || n == 16;
    }

    private static boolean isPrimeOfRing(int p) {
        if (p < 5 || p > 499) {
            return false;
        }
        for (int divisor = 2; divisor * divisor <= p; divisor++) {
            if (divides(divisor, p)) {
                return false;
            }
        }
        return true;
    }

    private static boolean divides(int divisor, int number) {
        return divisor > 0 && number % divisor == 0;
    }

    private void takeRing(int n, int p) {
        length = n;
        prime = p;
        bits = n == 4 ? 2 : n == 8 ? 3 : 4;
        unityRoot = smallestRoot();
        unityRootInverse = inverseOf(unityRoot);
        lengthInverse = inverseOf(n);
        for (int index = 0; index < numbers.length; index++) {
            numbers[index] = 0;
        }
    }

    /**
     * The order of a number is n, a power of two, just if its power n / 2 is -1: its square, the
     * power n, is 1 then, so the order divides n, but not n / 2.
     */
    private int smallestRoot() {
        int candidate = 2;
        while (candidate < prime - 1 && powerOf(candidate, length >> 1) != prime - 1) {
            candidate++;
        }
        return candidate;
    }

    // ---- numbers by the prime

    private int reduced(int number) {
        return prime > 0 ? Math.floorMod(number, prime) : 0;
    }

    private int powerOf(int base, int exponent) {
        int power = 1;
        int square = base;
        for (int left = exponent; left > 0; left >>= 1) {
            if ((left & 1) == 1) {
                power = reduced(power * square);
            }
            square = reduced(square * square);
        }
        return power;
    }

    /** By Fermat, the power p - 1 of a number other than 0 is 1. */
    private int inverseOf(int number) {
        return powerOf(number, prime - 2);
    }

    private int joined(int first, int second, int what) {
        if (what == SUMS) {
            return reduced(first + second);
        }
        if (what == DIFFERENCES) {
            return reduced(first - second);
        }
        return reduced(first * second);
    }

    // ---- places

    /** The length is a power of two, so its remainder is a mask, which is right below 0 too. */
    private int wrapped(int place) {
        return place & (length - 1);
    }

    private int mirrored(int place) {
        int turned = 0;
        for (int bit = 0; bit < bits; bit++) {
            turned = (turned << 1) | ((place >> bit) & 1);
        }
        return turned;
    }

    // ---- rows

    private int read(int row, int place) {
        int index = row * LONGEST + place;
        return index >= 0 && index < numbers.length ? numbers[index] : 0;
    }

    private void write(int row, int place, int number) {
        int index = row * LONGEST + place;
        if (index >= 0 && index < numbers.length) {
            numbers[index] = number;
        }
    }

    private int copyRow(int from, int to) {
        int changed = 0;
        for (int place = 0; place < length; place++) {
            int number = read(from, place);
            if (read(to, place) != number) {
                changed++;
            }
            write(to, place, number);
        }
        return changed;
    }

    private void butterfly(int row, int upper, int lower, int twiddle) {
        int a = read(row, upper);
        int e = reduced(read(row, lower) * twiddle);
        write(row, upper, reduced(a + e));
        write(row, lower, reduced(a - e));
    }

    private int valueAt(int row, int x) {
        int value = 0;
        for (int place = length - 1; place >= 0; place--) {
            value = reduced(value * x + read(row, place));
        }
        return value;
    }

    private void scratchTones(int row) {
        scratchValues(row, unityRoot, 1);
    }

    private void scratchTurnedBack(int row) {
        scratchValues(row, unityRootInverse, lengthInverse);
    }

    /** The tone k of a row is its value at the point w to the power of k. */
    private void scratchValues(int row, int base, int factor) {
        int x = 1;
        for (int place = 0; place < length; place++) {
            write(SCRATCH, place, reduced(valueAt(row, x) * factor));
            x = reduced(x * base);
        }
    }

    private int foldedAt(int a, int b, int place) {
        int sum = 0;
        for (int other = 0; other < length; other++) {
            sum = reduced(sum + read(a, other) * read(b, wrapped(place - other)));
        }
        return sum;
    }

    private boolean isWhenMoved(int a, int by, int b) {
        for (int place = 0; place < length; place++) {
            if (read(b, wrapped(place + by)) != read(a, place)) {
                return false;
            }
        }
        return true;
    }

    private int soundWhenMoved(int a, int by, int b) {
        int sum = 0;
        for (int place = 0; place < length; place++) {
            sum = reduced(sum + read(a, place) * read(b, wrapped(place + by)));
        }
        return sum;
    }

    // ---- what is told

    private int counted(int what) {
        switch (what) {
            case 0:
                return length;
            case 1:
                return prime;
            case 2:
                return unityRoot;
            case 3:
                return unityRootInverse;
            case 4:
                return lengthInverse;
            default:
                return bits;
        }
    }

    private int told(int row, int what) {
        switch (what) {
            case 0:
                return reduced(plainSum(row));
            case 1:
                return nonZeros(row);
            case 2:
                return lastNonZero(row);
            case 3:
                return period(row);
            default:
                return greatestNumber(row);
        }
    }

    private int plainSum(int row) {
        int sum = 0;
        for (int place = 0; place < length; place++) {
            sum += read(row, place);
        }
        return sum;
    }

    private int nonZeros(int row) {
        int found = 0;
        for (int place = 0; place < length; place++) {
            if (read(row, place) != 0) {
                found++;
            }
        }
        return found;
    }

    private int lastNonZero(int row) {
        for (int place = length - 1; place >= 0; place--) {
            if (read(row, place) != 0) {
                return place;
            }
        }
        return -1;
    }

    private int period(int row) {
        for (int by = 1; by < length; by++) {
            if (isWhenMoved(row, by, row)) {
                return by;
            }
        }
        return length;
    }

    private int greatestNumber(int row) {
        int greatest = 0;
        for (int place = 0; place < length; place++) {
            greatest = Math.max(greatest, read(row, place));
        }
        return greatest;
    }

    private long digestRow(long before, int row) {
        long d = before;
        for (int place = 0; place < length; place++) {
            d = d * 31L + read(row, place);
        }
        return d;
    }
}
