import java.math.BigInteger;
import java.util.Random;

/**
 * Runs of calls beside a model that computes each answer straight from the document's sums, with
 * right and wrong arguments; and every ring there is. The seeds are fixed, so each run is the same.
 * No object is used for more than the 512 calls for which the document promises anything.
 */
public final class ModelTest {
    private static int wrong = 0;

    public static void main(String[] args) {
        everyRing();
        for (int seed = 0; seed < 500; seed++) {
            run(seed);
        }
        System.out.println(wrong == 0 ? "all answers are the model's" : wrong + " answers are not the model's");
        if (wrong != 0) {
            System.exit(1);
        }
    }

    private static void due(String call, Object got, Object want) {
        if (!want.equals(got)) {
            wrong++;
            if (wrong < 50) {
                System.out.println(call + " answered " + got + ", due is " + want);
            }
        }
    }

    private interface Call {
        Object answer();
    }

    private static Object answer(Call call) {
        try {
            return call.answer();
        } catch (RuntimeException e) {
            return e.getClass().getName();
        }
    }

    private static void everyRing() {
        for (int n = -1; n <= 33; n++) {
            for (int p = -20; p <= 620; p++) {
                ToneButterflies x = new ToneButterflies();
                Model m = new Model();
                int length = n;
                int prime = p;
                String call = "ring(" + n + ", " + p + ")";
                Object want = answer(() -> m.ring(length, prime));
                due(call, answer(() -> x.ring(length, prime)), want);
                if (want instanceof Integer) {
                    due(call + " digest()", x.digest(), m.digest());
                    everyNumber(call, m, n, p);
                }
            }
        }
    }

    private static void everyNumber(String call, Model m, int n, int p) {
        for (int number = -1; number <= p + 1; number++) {
            int some = number;
            ToneButterflies x = new ToneButterflies();
            x.ring(n, p);
            due(call + " order(" + number + ")", answer(() -> x.order(some)), answer(() -> m.order(some)));
            due(call + " inverse(" + number + ")", answer(() -> x.inverse(some)), answer(() -> m.inverse(some)));
        }
    }

    private static void run(int seed) {
        Random random = new Random(seed);
        ToneButterflies x = new ToneButterflies();
        Model m = new Model();
        for (int made = 0; made < 200; made++) {
            call(seed, random, x, m);
            due("seed " + seed + ", call " + made + ", digest()", x.digest(), m.digest());
        }
    }

    private static int some(Random random, int beyond) {
        int kind = random.nextInt(60);
        if (kind == 0) {
            int[] far = {-1, beyond, beyond + 1, -beyond, Integer.MIN_VALUE, Integer.MAX_VALUE};
            return far[random.nextInt(far.length)];
        }
        return kind < 6 ? beyond - 1 : random.nextInt(beyond);
    }

    private static int[] someRing(Random random) {
        int[][] rings = {{4, 5}, {4, 13}, {8, 17}, {16, 17}, {8, 41}, {16, 97}, {4, 257}, {16, 449}, {4, 461}, {8, 457},
            {8, 7}, {4, 500}, {16, 41}};
        return rings[random.nextInt(rings.length)];
    }

    private static void call(int seed, Random random, ToneButterflies x, Model m) {
        int kind = random.nextInt(40);
        int a = some(random, 4);
        int b = some(random, 4);
        int place = some(random, m.n);
        // small numbers now and then, so that rows repeat and come to one another
        int number = random.nextInt(3) == 0 ? some(random, 3) : some(random, m.p);
        boolean back = random.nextBoolean();
        int what = some(random, 6);
        int way = some(random, 3);
        int stage = some(random, Integer.numberOfTrailingZeros(m.n));
        int power = some(random, 10000);
        int[] ring = random.nextInt(4) == 0 ? someRing(random) : new int[] {m.n, m.p};
        String told = "seed " + seed + ", kind " + kind + " of " + a + " " + b + " " + place + " " + number;
        switch (kind) {
            case 0 -> both(told, () -> x.ring(ring[0], ring[1]), () -> m.ring(ring[0], ring[1]));
            case 1 -> both(told, () -> x.order(number), () -> m.order(number));
            case 2 -> both(told, () -> x.inverse(number), () -> m.inverse(number));
            case 3 -> both(told, () -> x.root(power), () -> m.root(power));
            case 4, 5 -> both(told, () -> x.copy(a, b), () -> m.copy(a, b));
            case 6 -> both(told, () -> x.turn(a, back), () -> m.turn(a, back));
            case 7 -> both(told, () -> x.mirror(a), () -> m.mirror(a));
            case 8 -> both(told, () -> x.stage(a, stage), () -> m.stage(a, stage));
            case 9 -> both(told, () -> x.fold(a, b), () -> m.fold(a, b));
            case 10 -> both(told, () -> x.join(a, b, way), () -> m.join(a, b, way));
            case 11, 12 -> both(told, () -> x.move(a, place), () -> m.move(a, place));
            case 13 -> both(told, () -> x.times(a, number), () -> m.times(a, number));
            case 14 -> both(told, () -> x.at(a, place), () -> m.at(a, place));
            case 15 -> both(told, () -> x.point(a, number), () -> m.point(a, number));
            case 16 -> both(told, () -> x.about(a, what), () -> m.about(a, what));
            case 17 -> both(told, () -> x.count(what), () -> m.count(what));
            case 18 -> both(told, () -> x.would(a, b, place), () -> m.would(a, b, place));
            case 19, 20 -> both(told, () -> x.comes(a, b), () -> m.comes(a, b));
            case 21, 22 -> both(told, () -> x.advise(a, b), () -> m.advise(a, b));
            case 23 -> both(told, () -> x.tones(a, b), () -> m.tones(a, b));
            case 24 -> both(told, () -> x.mean(a), () -> m.mean(a));
            case 25 -> toned(told, x, m, a, b);
            default -> both(told, () -> x.set(a, place, number), () -> m.set(a, place, number));
        }
    }

    private static void both(String told, Call program, Call model) {
        due(told, answer(program), answer(model));
    }

    /** A row, and another one with its tones, so that tones() is asked where it is true, too. */
    private static void toned(String told, ToneButterflies x, Model m, int a, int b) {
        both(told + " copy", () -> x.copy(a, b), () -> m.copy(a, b));
        both(told + " turn", () -> x.turn(b, false), () -> m.turn(b, false));
        both(told + " tones", () -> x.tones(a, b), () -> m.tones(a, b));
    }

    /** Each answer straight from the document's words, as slowly as they say it. */
    private static final class Model {
        private int n = 8;
        private int p = 17;
        private long[][] v = new long[4][8];

        private static void row(int... rows) {
            for (int row : rows) {
                below(row, 4);
            }
        }

        private static void below(int what, int beyond) {
            if (what < 0 || what >= beyond) {
                throw new IndexOutOfBoundsException();
            }
        }

        private static void number(int number, int least, int beyond) {
            if (number < least || number >= beyond) {
                throw new IllegalArgumentException();
            }
        }

        private long pow(long base, long exponent) {
            long power = 1;
            for (long k = 0; k < exponent; k++) {
                power = power * base % p;
            }
            return power;
        }

        private int orderOf(int number) {
            int k = 1;
            while (pow(number, k) != 1) {
                k++;
            }
            return k;
        }

        private int inverseOf(int number) {
            int other = 1;
            while (number * other % p != 1) {
                other++;
            }
            return other;
        }

        private int w() {
            int number = 1;
            // the first test is for speed alone: a number whose power n is not 1 has another order
            while (pow(number, n) != 1 || orderOf(number) != n) {
                number++;
            }
            return number;
        }

        private long[] tonesOf(long[] row) {
            long w = w();
            long[] tones = new long[n];
            for (int k = 0; k < n; k++) {
                for (int i = 0; i < n; i++) {
                    tones[k] = (tones[k] + row[i] * pow(w, i * k)) % p;
                }
            }
            return tones;
        }

        private long[] turnedBack(long[] row) {
            long w = inverseOf(w());
            long[] back = new long[n];
            for (int i = 0; i < n; i++) {
                for (int k = 0; k < n; k++) {
                    back[i] = (back[i] + row[k] * pow(w, i * k)) % p;
                }
                back[i] = back[i] * inverseOf(n) % p;
            }
            return back;
        }

        private long[] folded(long[] a, long[] b) {
            long[] sums = new long[n];
            for (int i = 0; i < n; i++) {
                for (int j = 0; j < n; j++) {
                    sums[(i + j) % n] = (sums[(i + j) % n] + a[i] * b[j]) % p;
                }
            }
            return sums;
        }

        private long[] moved(long[] row, int by) {
            long[] moved = new long[n];
            for (int i = 0; i < n; i++) {
                moved[(i + by) % n] = row[i];
            }
            return moved;
        }

        private static boolean same(long[] a, long[] b) {
            return java.util.Arrays.equals(a, b);
        }

        private int nonZeros(long[] row) {
            int found = 0;
            for (long number : row) {
                found += number == 0 ? 0 : 1;
            }
            return found;
        }

        private int changed(long[] before, long[] after) {
            int changed = 0;
            for (int i = 0; i < n; i++) {
                changed += before[i] == after[i] ? 0 : 1;
            }
            return changed;
        }

        Object ring(int length, int prime) {
            boolean right = (length == 4 || length == 8 || length == 16) && prime >= 5 && prime <= 499
                && BigInteger.valueOf(prime).isProbablePrime(50) && (prime - 1) % length == 0;
            if (!right) {
                throw new IllegalArgumentException();
            }
            n = length;
            p = prime;
            v = new long[4][n];
            return w();
        }

        Object order(int number) {
            number(number, 1, p);
            return orderOf(number);
        }

        Object inverse(int number) {
            number(number, 1, p);
            return inverseOf(number);
        }

        Object root(int power) {
            number(power, 0, 10000);
            return (int) pow(w(), power);
        }

        Object set(int row, int place, int number) {
            row(row);
            below(place, n);
            number(number, 0, p);
            int before = (int) v[row][place];
            v[row][place] = number;
            return before;
        }

        Object copy(int from, int to) {
            row(from, to);
            int changed = changed(v[to], v[from]);
            v[to] = v[from].clone();
            return changed;
        }

        Object turn(int row, boolean back) {
            row(row);
            v[row] = back ? turnedBack(v[row]) : tonesOf(v[row]);
            return (int) v[row][0];
        }

        Object mirror(int row) {
            row(row);
            int bits = Integer.numberOfTrailingZeros(n);
            long[] mirrored = new long[n];
            for (int i = 0; i < n; i++) {
                mirrored[Integer.reverse(i) >>> (32 - bits)] = v[row][i];
            }
            int changed = changed(v[row], mirrored);
            v[row] = mirrored;
            return changed;
        }

        Object stage(int row, int stage) {
            row(row);
            below(stage, Integer.numberOfTrailingZeros(n));
            int h = (int) Math.pow(2, stage);
            long w = w();
            long[] old = v[row].clone();
            for (int b = 0; b < n; b++) {
                for (int j = 0; b % (2 * h) == 0 && j < h; j++) {
                    long e = old[b + j + h] * pow(w, j * n / (2 * h)) % p;
                    v[row][b + j] = (old[b + j] + e) % p;
                    v[row][b + j + h] = (old[b + j] + p - e) % p;
                }
            }
            return (int) v[row][0];
        }

        Object fold(int a, int b) {
            row(a, b);
            v[a] = folded(v[a], v[b]);
            return (int) v[a][0];
        }

        Object join(int a, int b, int what) {
            row(a, b);
            below(what, 3);
            long[] joined = new long[n];
            for (int i = 0; i < n; i++) {
                long[] ways = {v[a][i] + v[b][i], v[a][i] - v[b][i] + p, v[a][i] * v[b][i]};
                joined[i] = ways[what] % p;
            }
            v[a] = joined;
            return nonZeros(joined);
        }

        Object move(int row, int by) {
            row(row);
            number(by, 0, n);
            v[row] = moved(v[row], by);
            return (int) v[row][0];
        }

        Object times(int row, int by) {
            row(row);
            number(by, 0, p);
            for (int i = 0; i < n; i++) {
                v[row][i] = v[row][i] * by % p;
            }
            return nonZeros(v[row]);
        }

        Object at(int row, int place) {
            row(row);
            below(place, n);
            return (int) v[row][place];
        }

        Object point(int row, int x) {
            row(row);
            number(x, 0, p);
            long sum = 0;
            for (int i = 0; i < n; i++) {
                sum = (sum + v[row][i] * pow(x, i)) % p;
            }
            return (int) sum;
        }

        Object about(int row, int what) {
            row(row);
            below(what, 5);
            return told(v[row], what);
        }

        private int told(long[] row, int what) {
            long sum = 0;
            long greatest = 0;
            int last = -1;
            for (int i = 0; i < n; i++) {
                sum = (sum + row[i]) % p;
                greatest = Math.max(greatest, row[i]);
                last = row[i] == 0 ? last : i;
            }
            int by = 1;
            while (!same(row, moved(row, by))) {
                by++;
            }
            return new int[] {(int) sum, nonZeros(row), last, by, (int) greatest}[what];
        }

        Object count(int what) {
            below(what, 6);
            return counted()[what];
        }

        private int[] counted() {
            int w = w();
            return new int[] {n, p, w, inverseOf(w), inverseOf(n), Integer.numberOfTrailingZeros(n)};
        }

        Object would(int a, int b, int place) {
            row(a, b);
            below(place, n);
            return (int) folded(v[a], v[b])[place];
        }

        Object comes(int a, int b) {
            row(a, b);
            for (int by = 0; by < n; by++) {
                if (same(moved(v[a], by), v[b])) {
                    return by;
                }
            }
            return -1;
        }

        Object advise(int a, int b) {
            row(a, b);
            long[] sums = new long[n];
            int best = 0;
            for (int by = 0; by < n; by++) {
                long[] moved = moved(v[a], by);
                for (int i = 0; i < n; i++) {
                    sums[by] = (sums[by] + moved[i] * v[b][i]) % p;
                }
                best = sums[by] > sums[best] ? by : best;
            }
            return best;
        }

        Object tones(int a, int b) {
            row(a, b);
            return same(tonesOf(v[a]), v[b]);
        }

        Object mean(int row) {
            row(row);
            double sum = 0;
            for (long number : v[row]) {
                sum += number;
            }
            return sum / n;
        }

        long digest() {
            long d = 1777L;
            for (int told : counted()) {
                d = d * 31L + told;
            }
            for (long[] row : v) {
                for (long number : row) {
                    d = d * 31L + number;
                }
                for (int what = 0; what < 5; what++) {
                    d = d * 31L + told(row, what);
                }
                for (long tone : tonesOf(row)) {
                    d = d * 31L + tone;
                }
            }
            return d;
        }
    }
}
