/**
 * One test for each sentence of the document that names a boundary case. Each test begins with the
 * promise (or "Terms") and the words that it tests, which stand in its messages, too.
 * No object is used for more than the 512 calls for which the document promises anything.
 */
public final class BoundariesTest {
    private static final Class<?> PLACE = IndexOutOfBoundsException.class;
    private static final Class<?> VALUE = IllegalArgumentException.class;
    private static final int LEAST = Integer.MIN_VALUE;
    private static final int GREATEST = Integer.MAX_VALUE;

    /** For each length the smallest prime, and the greatest one below 500, whose p - 1 it divides. */
    private static final Ring[] RINGS = {
        new Ring(4, 5, 2, 3, 4, 2), new Ring(4, 461, 48, 413, 346, 2),
        new Ring(8, 17, 2, 9, 15, 3), new Ring(8, 457, 170, 207, 400, 3),
        new Ring(16, 17, 3, 6, 16, 4), new Ring(16, 449, 35, 77, 421, 4)};

    /** The first numbers beside the rows, the farthest ones, and some that times 16 are 0 in 32 bits. */
    private static final int[] NO_ROWS = {-1, 4, 5, -4, LEAST, GREATEST, 1 << 28, -(1 << 28), 1 << 30};

    private static String sentence = "";
    private static int sentences = 0;
    private static int checks = 1;
    private static int wrong = 0;

    private interface Call {
        Object on(ToneButterflies x);
    }

    private interface RowCall {
        Object on(ToneButterflies x, int row);
    }

    private interface PairCall {
        Object on(ToneButterflies x, int a, int b);
    }

    public static void main(String[] args) {
        terms();
        termsOfRows();
        newObject();
        ring();
        numbers();
        setAndCopy();
        turnMirrorStage();
        foldAndJoin();
        moveAndTimes();
        whatThereIs();
        wouldComesAdvise();
        tonesMeanDigest();
        sentence("end", "");
        System.out.println(wrong == 0 ? "the boundaries of " + (sentences - 1) + " sentences hold"
            : wrong + " answers are not as due");
        if (wrong != 0) {
            System.exit(1);
        }
    }

    // ---- helpers

    /** Says which words of which promise are tested from here on. */
    private static void sentence(String promise, String words) {
        if (checks == 0) {
            wrong++;
            System.out.println(sentence + " is not tested at all");
        }
        sentence = promise + ", \"" + words + "\": ";
        sentences++;
        checks = 0;
    }

    private static void due(String call, Object got, Object want) {
        checks++;
        if (!want.equals(got)) {
            wrong++;
            System.out.println(sentence + call + " answered " + got + ", due is " + want);
        }
    }

    private static Object answer(ToneButterflies x, Call call) {
        try {
            return call.on(x);
        } catch (RuntimeException e) {
            return e.getClass();
        }
    }

    /** The call throws this very class, and all that can be seen is as it was before. */
    private static void refused(Ring ring, String call, Class<?> want, Call made) {
        refused(ring.filled(), ring + call, want, made);
    }

    private static void refused(ToneButterflies x, String call, Class<?> want, Call made) {
        String before = look(x);
        due(call, answer(x, made), want);
        due("what is seen behind the refused " + call, look(x), before);
    }

    /** The call is answered, and all that can be seen is as it was before. */
    private static void changesNothing(Ring ring, String call, Call made) {
        ToneButterflies x = ring.filled();
        String before = look(x);
        due(ring + call + " is refused", answer(x, made) instanceof Class, false);
        due(ring + "what is seen behind " + call, look(x), before);
    }

    /** All that there is to be seen of an object, by 99 calls at most. */
    private static String look(ToneButterflies x) {
        StringBuilder seen = new StringBuilder();
        for (int what = 0; what < 6; what++) {
            seen.append(x.count(what)).append(' ');
        }
        int n = x.count(0);
        for (int row = 0; row < 4; row++) {
            seen.append("| ").append(numbers(x, n, row)).append(" about");
            for (int what = 0; what < 5; what++) {
                seen.append(' ').append(x.about(row, what));
            }
            seen.append(" mean ").append(x.mean(row)).append(' ');
        }
        seen.append("| ").append(x.root(1)).append(' ').append(x.order(2)).append(' ').append(x.inverse(2));
        return seen.append(' ').append(x.digest()).toString();
    }

    private static String numbers(ToneButterflies x, int n, int row) {
        int[] numbers = new int[n];
        for (int place = 0; place < n; place++) {
            numbers[place] = x.at(row, place);
        }
        return text(numbers);
    }

    private static String text(int... numbers) {
        StringBuilder told = new StringBuilder();
        for (int number : numbers) {
            told.append(told.length() == 0 ? "" : " ").append(number);
        }
        return told.toString();
    }

    private static int[] same(int n, int number) {
        int[] numbers = new int[n];
        java.util.Arrays.fill(numbers, number);
        return numbers;
    }

    private static int[] only(int n, int place, int number) {
        int[] numbers = new int[n];
        numbers[place] = number;
        return numbers;
    }

    /** The numbers first and second, by turns. */
    private static int[] byTurns(int n, int first, int second) {
        int[] numbers = new int[n];
        for (int place = 0; place < n; place++) {
            numbers[place] = place % 2 == 0 ? first : second;
        }
        return numbers;
    }

    private static int[] places(int n) {
        int[] numbers = new int[n];
        for (int place = 0; place < n; place++) {
            numbers[place] = place;
        }
        return numbers;
    }

    private static void put(ToneButterflies x, int row, int... numbers) {
        for (int place = 0; place < numbers.length; place++) {
            x.set(row, place, numbers[place]);
        }
    }

    private static int power(int base, int exponent, int p) {
        int power = 1;
        for (int k = 0; k < exponent; k++) {
            power = power * base % p;
        }
        return power;
    }

    /** A length and a prime, with what is due for them, worked out beside the class. */
    private record Ring(int n, int p, int root, int rootInverse, int lengthInverse, int bits) {
        ToneButterflies zeros() {
            ToneButterflies x = new ToneButterflies();
            x.ring(n, p);
            return x;
        }

        /** The rows are the given ones, from the row 0 on. */
        ToneButterflies of(int[]... rows) {
            ToneButterflies x = zeros();
            for (int row = 0; row < rows.length; row++) {
                put(x, row, rows[row]);
            }
            return x;
        }

        /** One row is the given one, all others are 0. */
        ToneButterflies with(int row, int... numbers) {
            ToneButterflies x = zeros();
            put(x, row, numbers);
            return x;
        }

        ToneButterflies greatest() {
            return of(same(n, p - 1), same(n, p - 1), same(n, p - 1), same(n, p - 1));
        }

        /** Four different rows, with a 0 and a greatest number among them. */
        ToneButterflies filled() {
            int[][] rows = new int[4][n];
            for (int row = 0; row < 4; row++) {
                for (int place = 0; place < n; place++) {
                    rows[row][place] = (place * place * (row + 1) + 3 * place + 2 * row + 1) % p;
                }
            }
            rows[0][n - 1] = p - 1;
            rows[1][n - 1] = 0;
            rows[3][0] = p - 1;
            rows[3][n - 1] = p - 2;
            return of(rows);
        }

        @Override
        public String toString() {
            return "ring " + n + ", " + p + ": ";
        }
    }

    /** The rows 0 and 3 are taken, and everything beside 0 to 3 is refused. */
    private static void onlyRows0To3(String call, RowCall made) {
        for (Ring ring : RINGS) {
            for (int row : new int[] {0, 3}) {
                Object got = answer(ring.filled(), x -> made.on(x, row));
                due(ring + call + " with row " + row + " is refused", got instanceof Class, false);
            }
            for (int row : NO_ROWS) {
                refused(ring, call + " with row " + row, PLACE, x -> made.on(x, row));
            }
        }
    }

    private static void onlyPlaces0ToEnd(String call, RowCall made) {
        for (Ring ring : RINGS) {
            int n = ring.n;
            for (int place : new int[] {0, n - 1}) {
                Object got = answer(ring.filled(), x -> made.on(x, place));
                due(ring + call + " with place " + place + " is refused", got instanceof Class, false);
            }
            for (int place : new int[] {-1, n, n + 1, -n, 16, LEAST, GREATEST}) {
                refused(ring, call + " with place " + place, PLACE, x -> made.on(x, place));
            }
        }
    }

    /** From the least to the beyond less 1 all is taken, and what is beside them is refused so. */
    private static void only(Ring ring, String call, int least, int beyond, Class<?> beside, RowCall made) {
        for (int number : new int[] {least, beyond - 1}) {
            Object got = answer(ring.filled(), x -> made.on(x, number));
            due(ring + call + " with " + number + " is refused", got instanceof Class, false);
        }
        for (int number : new int[] {least - 1, beyond, beyond + 1, -beyond, LEAST, GREATEST}) {
            refused(ring, call + " with " + number, beside, x -> made.on(x, number));
        }
    }

    /** Of the rows 0 and 3, which the call changes, each is changed alone. */
    private static void othersStay(String call, RowCall made) {
        for (Ring ring : RINGS) {
            for (int changed : new int[] {0, 3}) {
                ToneButterflies x = ring.filled();
                ToneButterflies untouched = ring.filled();
                made.on(x, changed);
                for (int row = 0; row < 4; row++) {
                    if (row != changed) {
                        due(ring + call + " with row " + changed + ": row " + row,
                            numbers(x, ring.n, row), numbers(untouched, ring.n, row));
                    }
                }
            }
        }
    }

    /** What the rows a and b answer and become is the same, whatever the rows before and behind them have. */
    private static void othersDoNotMatter(String call, PairCall made) {
        for (Ring ring : RINGS) {
            for (int a = 0; a < 4; a++) {
                for (int b = 0; b < 4; b++) {
                    ToneButterflies x = ring.filled();
                    Object want = made.on(x, a, b);
                    ToneButterflies zeros = othersAre(ring, a, b, 0);
                    ToneButterflies greatest = othersAre(ring, a, b, ring.p - 1);
                    String with = ring + call + " with " + a + ", " + b;
                    due(with + " beside rows of 0", made.on(zeros, a, b), want);
                    due(with + " beside rows of p - 1", made.on(greatest, a, b), want);
                    due(with + " beside rows of 0, the row", numbers(zeros, ring.n, a), numbers(x, ring.n, a));
                    due(with + " beside rows of p - 1, the row", numbers(greatest, ring.n, a), numbers(x, ring.n, a));
                }
            }
        }
    }

    private static ToneButterflies othersAre(Ring ring, int a, int b, int number) {
        ToneButterflies x = ring.filled();
        for (int row = 0; row < 4; row++) {
            if (row != a && row != b) {
                put(x, row, same(ring.n, number));
            }
        }
        return x;
    }

    // ---- What it is, and Terms

    private static void terms() {
        last512thCall();
        primesAtFirstAndAtTheEnds();
        lengthsAtFirstAndAtTheEnds();
        numbersOfRows();
        sumsDifferencesAndProducts();
        inverseIsThatWithProduct1();
        orderIsTheLeast1OrMore();
        rootIsTheSmallest();
        refusedChangesNothing();
        firstNamedIsThrown();
    }

    private static void last512thCall() {
        sentence("What it is", "An object is used for at most 512 calls after it has been made");
        due("511 calls, at(3, 7)", usedFor511Calls().at(3, 7), 1);
        due("511 calls, set(3, 7, 16)", usedFor511Calls().set(3, 7, 16), 1);
        due("511 calls, turn(3, false)", usedFor511Calls().turn(3, false), 1);
        due("511 calls, fold(3, 3)", usedFor511Calls().fold(3, 3), 0);
        due("511 calls, ring(16, 97)", usedFor511Calls().ring(16, 97), 8);
        due("511 calls, count(1)", usedFor511Calls().count(1), 17);
        due("511 calls, mean(3)", usedFor511Calls().mean(3), 0.125);
        due("511 calls, digest()", usedFor511Calls().digest(), 8566687965543129526L);
        due("511 calls, at(3, 8)", answer(usedFor511Calls(), x -> x.at(3, 8)), PLACE);
        due("511 calls, order(0)", answer(usedFor511Calls(), x -> x.order(0)), VALUE);
    }

    /** A row 3 with 1 at its last place, and 0 else, behind 511 calls. */
    private static ToneButterflies usedFor511Calls() {
        ToneButterflies x = new ToneButterflies();
        for (int call = 1; call <= 511; call++) {
            due("call " + call, x.set(3, 7, call % 17), (call - 1) % 17);
        }
        return x;
    }

    private static void primesAtFirstAndAtTheEnds() {
        sentence("Terms", "It has a prime p, 5 to 499 (17, at first)");
        due("count(1)", new ToneButterflies().count(1), 17);
        due("set(0, 0, 16)", new ToneButterflies().set(0, 0, 16), 0);
        refused(new ToneButterflies(), "set(0, 0, 17)", VALUE, x -> x.set(0, 0, 17));
        for (Ring ring : RINGS) {
            due(ring + "count(1)", ring.zeros().count(1), ring.p);
        }
        refused(RINGS[0], "ring(4, 3)", VALUE, x -> x.ring(4, 3));
        // 499 is a prime of 5 to 499, but no length divides 498
        refused(RINGS[0], "ring(4, 499)", VALUE, x -> x.ring(4, 499));
        refused(RINGS[0], "ring(4, 509)", VALUE, x -> x.ring(4, 509));
    }

    private static void lengthsAtFirstAndAtTheEnds() {
        sentence("Terms", "and a length n, 4, 8 or 16 (8, at first), that divides p - 1");
        due("count(0)", new ToneButterflies().count(0), 8);
        due("at(0, 7)", new ToneButterflies().at(0, 7), 0);
        refused(new ToneButterflies(), "at(0, 8)", PLACE, x -> x.at(0, 8));
        for (int n : new int[] {4, 8, 16}) {
            ToneButterflies x = new ToneButterflies();
            x.ring(n, 17);
            due("count(0) behind ring(" + n + ", 17)", x.count(0), n);
        }
        refused(RINGS[0], "ring(2, 17)", VALUE, x -> x.ring(2, 17));
        refused(RINGS[0], "ring(32, 97)", VALUE, x -> x.ring(32, 97));
        refused(RINGS[0], "ring(16, 41)", VALUE, x -> x.ring(16, 41));
    }

    private static void numbersOfRows() {
        sentence("Terms", "Numbers of rows are 0 to p - 1");
        for (Ring ring : RINGS) {
            ToneButterflies x = ring.zeros();
            for (int place = 0; place < ring.n; place++) {
                x.set(1, place, ring.p - 1);
                due(ring + "at(1, " + place + ")", x.at(1, place), ring.p - 1);
                x.set(1, place, 0);
                due(ring + "at(1, " + place + ") then", x.at(1, place), 0);
            }
            refused(ring, "set(1, 0, p)", VALUE, y -> y.set(1, 0, ring.p));
            refused(ring, "set(1, 0, -1)", VALUE, y -> y.set(1, 0, -1));
        }
    }

    private static void sumsDifferencesAndProducts() {
        sentence("Terms", "sums, differences and products are taken by the remainder of p, 0 to p - 1");
        for (Ring ring : RINGS) {
            int end = ring.p - 1;
            int half = (ring.p + 1) / 2;
            joined(ring, 0, new int[] {end, end, end, 0}, new int[] {0, 1, end, 0}, end, 0, end - 1, 0);
            joined(ring, 1, new int[] {0, 0, end, 1}, new int[] {1, end, end, 2}, end, 1, 0, end);
            joined(ring, 2, new int[] {end, end, 2, 0}, new int[] {end, 1, half, end}, 1, end, 1, 0);
        }
    }

    private static void joined(Ring ring, int what, int[] first, int[] second, int... want) {
        ToneButterflies x = ring.of(first, second);
        x.join(0, 1, what);
        due(ring + text(first) + " joined by " + what + " with " + text(second), numbers(x, 4, 0), text(want));
    }

    private static void inverseIsThatWithProduct1() {
        sentence("Terms", "The inverse of a number other than 0: that with which its product is 1");
        for (Ring ring : RINGS) {
            ToneButterflies x = ring.zeros();
            for (int number = 1; number < ring.p; number++) {
                int inverse = x.inverse(number);
                due(ring + "inverse(" + number + ") is " + inverse + ", of the ring",
                    inverse >= 1 && inverse < ring.p && number * inverse % ring.p == 1, true);
            }
        }
    }

    private static void orderIsTheLeast1OrMore() {
        sentence("Terms", "the least k, 1 or more, of which the k-th power of it is 1");
        // the least number whose order is p - 1, the greatest order that there is
        int[] generators = {2, 2, 3, 13, 3, 3};
        for (int at = 0; at < RINGS.length; at++) {
            Ring ring = RINGS[at];
            due(ring + "order(1)", ring.zeros().order(1), 1);
            due(ring + "order(p - 1)", ring.zeros().order(ring.p - 1), 2);
            due(ring + "order of the root", ring.zeros().order(ring.root), ring.n);
            due(ring + "order of its inverse", ring.zeros().order(ring.rootInverse), ring.n);
            due(ring + "order(" + generators[at] + ")", ring.zeros().order(generators[at]), ring.p - 1);
        }
    }

    private static void rootIsTheSmallest() {
        sentence("Terms", "The root w: the smallest number of the order n");
        for (Ring ring : RINGS) {
            ToneButterflies x = ring.zeros();
            due(ring + "count(2)", x.count(2), ring.root);
            due(ring + "order(w)", x.order(ring.root), ring.n);
            for (int number = 1; number < ring.root; number++) {
                due(ring + "order(" + number + ") is n", x.order(number) == ring.n, false);
            }
        }
    }

    private static void refusedChangesNothing() {
        sentence("Terms", "A method that throws an exception changes nothing");
        for (Ring ring : RINGS) {
            int n = ring.n;
            int p = ring.p;
            refused(ring, "ring(16, 41)", VALUE, x -> x.ring(16, 41));
            refused(ring, "ring(5, 11)", VALUE, x -> x.ring(5, 11));
            refused(ring, "ring(n, 9)", VALUE, x -> x.ring(n, 9));
            refused(ring, "order(p)", VALUE, x -> x.order(p));
            refused(ring, "inverse(p)", VALUE, x -> x.inverse(p));
            refused(ring, "root(10000)", VALUE, x -> x.root(10000));
            refused(ring, "set(0, n, 0)", PLACE, x -> x.set(0, n, 0));
            refused(ring, "set(3, 0, p)", VALUE, x -> x.set(3, 0, p));
            refused(ring, "copy(4, 0)", PLACE, x -> x.copy(4, 0));
            refused(ring, "copy(3, 4)", PLACE, x -> x.copy(3, 4));
            refused(ring, "turn(4, false)", PLACE, x -> x.turn(4, false));
            refused(ring, "turn(4, true)", PLACE, x -> x.turn(4, true));
            refused(ring, "mirror(4)", PLACE, x -> x.mirror(4));
            refused(ring, "stage(4, 0)", PLACE, x -> x.stage(4, 0));
            refused(ring, "stage(3, bits)", PLACE, x -> x.stage(3, ring.bits));
            refused(ring, "fold(3, 4)", PLACE, x -> x.fold(3, 4));
            refused(ring, "join(3, 4, 0)", PLACE, x -> x.join(3, 4, 0));
            refused(ring, "join(3, 2, 3)", PLACE, x -> x.join(3, 2, 3));
            refused(ring, "move(4, 1)", PLACE, x -> x.move(4, 1));
            refused(ring, "move(3, n)", VALUE, x -> x.move(3, n));
            refused(ring, "times(4, 2)", PLACE, x -> x.times(4, 2));
            refused(ring, "times(3, p)", VALUE, x -> x.times(3, p));
            refused(ring, "at(3, n)", PLACE, x -> x.at(3, n));
            refused(ring, "point(3, p)", VALUE, x -> x.point(3, p));
            refused(ring, "about(3, 5)", PLACE, x -> x.about(3, 5));
            refused(ring, "count(6)", PLACE, x -> x.count(6));
            refused(ring, "would(3, 2, n)", PLACE, x -> x.would(3, 2, n));
            refused(ring, "comes(3, 4)", PLACE, x -> x.comes(3, 4));
            refused(ring, "advise(3, 4)", PLACE, x -> x.advise(3, 4));
            refused(ring, "tones(3, 4)", PLACE, x -> x.tones(3, 4));
            refused(ring, "mean(4)", PLACE, x -> x.mean(4));
        }
    }

    private static void firstNamedIsThrown() {
        sentence("Terms", "If several exceptions apply, the one that is named first is thrown");
        for (Ring ring : RINGS) {
            int n = ring.n;
            int p = ring.p;
            for (int row : NO_ROWS) {
                refused(ring, "set(" + row + ", 0, p)", PLACE, x -> x.set(row, 0, p));
                refused(ring, "set(" + row + ", 0, -1)", PLACE, x -> x.set(row, 0, -1));
                refused(ring, "set(" + row + ", n, p)", PLACE, x -> x.set(row, n, p));
                refused(ring, "move(" + row + ", n)", PLACE, x -> x.move(row, n));
                refused(ring, "move(" + row + ", -1)", PLACE, x -> x.move(row, -1));
                refused(ring, "times(" + row + ", p)", PLACE, x -> x.times(row, p));
                refused(ring, "times(" + row + ", -1)", PLACE, x -> x.times(row, -1));
                refused(ring, "point(" + row + ", p)", PLACE, x -> x.point(row, p));
                refused(ring, "point(" + row + ", -1)", PLACE, x -> x.point(row, -1));
            }
            for (int place : new int[] {-1, n, LEAST, GREATEST}) {
                refused(ring, "set(0, " + place + ", p)", PLACE, x -> x.set(0, place, p));
                refused(ring, "set(3, " + place + ", -1)", PLACE, x -> x.set(3, place, -1));
            }
        }
    }

    private static void termsOfRows() {
        fourRows();
        rowsHaveTheirOwnNumbers();
        tonesGoRoundThePowers();
        turnedBackGoesRoundThePowers();
        mirroredBits();
        stagesFromFirstToLast();
        lastPairOfAStage();
        stageSumsAndDifferences();
        foldedPlacesGoRound();
    }

    private static void fourRows() {
        sentence("Terms", "There are four, 0 to 3, each with n numbers, at places from 0 (all 0, at first)");
        for (Ring ring : RINGS) {
            String zeros = text(same(ring.n, 0));
            for (int row = 0; row < 4; row++) {
                due(ring + "row " + row + " at first", numbers(ring.zeros(), ring.n, row), zeros);
            }
        }
        othersStay("set(row, 0, 0)", (x, row) -> x.set(row, 0, 0));
        othersStay("set(row, n - 1, 0)", (x, row) -> x.set(row, x.count(0) - 1, 0));
        othersStay("copy(1, row)", (x, row) -> x.copy(1, row));
        othersStay("turn(row, false)", (x, row) -> x.turn(row, false));
        othersStay("turn(row, true)", (x, row) -> x.turn(row, true));
        othersStay("mirror(row)", (x, row) -> x.mirror(row));
        othersStay("stage(row, 0)", (x, row) -> x.stage(row, 0));
        othersStay("stage(row, bits - 1)", (x, row) -> x.stage(row, x.count(5) - 1));
        othersStay("fold(row, 1)", (x, row) -> x.fold(row, 1));
        othersStay("fold(row, row)", (x, row) -> x.fold(row, row));
        othersStay("join(row, 1, 0)", (x, row) -> x.join(row, 1, 0));
        othersStay("join(row, 1, 1)", (x, row) -> x.join(row, 1, 1));
        othersStay("join(row, 1, 2)", (x, row) -> x.join(row, 1, 2));
        othersStay("move(row, n - 1)", (x, row) -> x.move(row, x.count(0) - 1));
        othersStay("times(row, 2)", (x, row) -> x.times(row, 2));
    }

    private static void rowsHaveTheirOwnNumbers() {
        sentence("Terms", "There are four, 0 to 3, each with n numbers");
        othersDoNotMatter("copy", (x, a, b) -> x.copy(b, a));
        othersDoNotMatter("turn", (x, a, b) -> x.turn(a, false));
        othersDoNotMatter("turn back", (x, a, b) -> x.turn(a, true));
        othersDoNotMatter("mirror", (x, a, b) -> x.mirror(a));
        othersDoNotMatter("the first stage", (x, a, b) -> x.stage(a, 0));
        othersDoNotMatter("the last stage", (x, a, b) -> x.stage(a, x.count(5) - 1));
        othersDoNotMatter("fold", (x, a, b) -> x.fold(a, b));
        othersDoNotMatter("join by sums", (x, a, b) -> x.join(a, b, 0));
        othersDoNotMatter("join by differences", (x, a, b) -> x.join(a, b, 1));
        othersDoNotMatter("join by products", (x, a, b) -> x.join(a, b, 2));
        othersDoNotMatter("move by 1", (x, a, b) -> x.move(a, 1));
        othersDoNotMatter("move by n - 1", (x, a, b) -> x.move(a, x.count(0) - 1));
        othersDoNotMatter("times", (x, a, b) -> x.times(a, 2));
        othersDoNotMatter("point", (x, a, b) -> x.point(a, 2));
        for (int what = 0; what < 5; what++) {
            int way = what;
            othersDoNotMatter("about " + way, (x, a, b) -> x.about(a, way));
        }
        othersDoNotMatter("would at 0", (x, a, b) -> x.would(a, b, 0));
        othersDoNotMatter("would at n - 1", (x, a, b) -> x.would(a, b, x.count(0) - 1));
        othersDoNotMatter("comes", (x, a, b) -> x.comes(a, b));
        othersDoNotMatter("advise", (x, a, b) -> x.advise(a, b));
        othersDoNotMatter("tones", (x, a, b) -> x.tones(a, b));
        othersDoNotMatter("mean", (x, a, b) -> x.mean(a));
    }

    private static void tonesGoRoundThePowers() {
        sentence("Terms", "the place k of them has the sum, over all places i, of v[i] times w to the power of i * k");
        for (Ring ring : RINGS) {
            int n = ring.n;
            ToneButterflies x = ring.of(only(n, 0, 1), only(n, 1, 1), only(n, n - 1, 1), only(n, n / 2, 1));
            int[] ups = new int[n];
            int[] downs = new int[n];
            for (int k = 0; k < n; k++) {
                ups[k] = power(ring.root, k, ring.p);
                downs[k] = power(ring.root, (n - 1) * k, ring.p);
            }
            for (int row = 0; row < 4; row++) {
                x.turn(row, false);
            }
            due(ring + "tones of 1 at the place 0", numbers(x, n, 0), text(same(n, 1)));
            due(ring + "tones of 1 at the place 1", numbers(x, n, 1), text(ups));
            due(ring + "tones of 1 at the last place", numbers(x, n, 2), text(downs));
            due(ring + "the last tone of it", x.at(2, n - 1), ring.root);
            due(ring + "tones of 1 at half the way", numbers(x, n, 3), text(byTurns(n, 1, ring.p - 1)));
        }
    }

    private static void turnedBackGoesRoundThePowers() {
        sentence("Terms", "all times the inverse of n");
        for (Ring ring : RINGS) {
            int n = ring.n;
            ToneButterflies x = ring.of(only(n, 0, n), only(n, 1, n), only(n, n - 1, n), only(n, n - 1, 1));
            int[] downs = new int[n];
            int[] ups = new int[n];
            int[] parts = new int[n];
            for (int i = 0; i < n; i++) {
                downs[i] = power(ring.rootInverse, i, ring.p);
                ups[i] = power(ring.rootInverse, (n - 1) * i, ring.p);
                parts[i] = ups[i] * ring.lengthInverse % ring.p;
            }
            for (int row = 0; row < 4; row++) {
                x.turn(row, true);
            }
            due(ring + "turned back of n at the place 0", numbers(x, n, 0), text(same(n, 1)));
            due(ring + "turned back of n at the place 1", numbers(x, n, 1), text(downs));
            due(ring + "turned back of n at the last place", numbers(x, n, 2), text(ups));
            due(ring + "the last number of it", x.at(2, n - 1), ring.rootInverse);
            due(ring + "turned back of 1 at the last place", numbers(x, n, 3), text(parts));
        }
    }

    private static void mirroredBits() {
        sentence("Terms",
            "whose bits (2, 3 or 4 of them, for n = 4, 8, 16) are those of the first one in the turned order");
        int[][] turned = {{0, 2, 1, 3}, {0, 4, 2, 6, 1, 5, 3, 7},
            {0, 8, 4, 12, 2, 10, 6, 14, 1, 9, 5, 13, 3, 11, 7, 15}};
        for (Ring ring : RINGS) {
            int[] to = turned[ring.bits - 2];
            for (int place = 0; place < ring.n; place++) {
                ToneButterflies x = ring.of(only(ring.n, place, ring.p - 1));
                x.mirror(0);
                due(ring + "mirrored place " + place, numbers(x, ring.n, 0), text(only(ring.n, to[place], ring.p - 1)));
            }
        }
    }

    private static void stagesFromFirstToLast() {
        sentence("Terms", "A stage s of a row, 0 to 1, 2 or 3");
        for (Ring ring : RINGS) {
            int last = ring.bits - 1;
            int n = ring.n;
            ToneButterflies x = ring.of(only(n, 0, 1), only(n, 0, 1));
            x.stage(0, 0);
            x.stage(1, last);
            int[] first = only(n, 0, 1);
            first[1] = 1;
            int[] halves = only(n, 0, 1);
            halves[n / 2] = 1;
            due(ring + "stage 0", numbers(x, n, 0), text(first));
            due(ring + "stage " + last, numbers(x, n, 1), text(halves));
            refused(ring, "stage(0, -1)", PLACE, y -> y.stage(0, -1));
            refused(ring, "stage(0, " + ring.bits + ")", PLACE, y -> y.stage(0, ring.bits));
        }
    }

    private static void lastPairOfAStage() {
        sentence("Terms", "for each number b that is divided by 2 * h, 0 to n - 1, and each j, 0 to h - 1");
        for (Ring ring : RINGS) {
            int n = ring.n;
            for (int stage = 0; stage < ring.bits; stage++) {
                int h = stage == 0 ? 1 : stage == 1 ? 2 : stage == 2 ? 4 : 8;
                ToneButterflies x = ring.of(only(n, n - 1, 1), only(n, n - 1 - h, 1), only(n, 0, 1), only(n, h, 1));
                for (int row = 0; row < 4; row++) {
                    x.stage(row, stage);
                }
                String call = ring + "stage " + stage + " of 1 ";
                int e = power(ring.root, (h - 1) * n / (2 * h), ring.p);
                due(call + "at the last place", numbers(x, n, 0), text(pair(n, n - 1 - h, e, n - 1, ring.p - e)));
                due(call + "at its partner", numbers(x, n, 1), text(pair(n, n - 1 - h, 1, n - 1, 1)));
                due(call + "at the place 0", numbers(x, n, 2), text(pair(n, 0, 1, h, 1)));
                due(call + "at the place h", numbers(x, n, 3), text(pair(n, 0, 1, h, ring.p - 1)));
            }
        }
    }

    private static int[] pair(int n, int place, int number, int other, int otherNumber) {
        int[] numbers = only(n, place, number);
        numbers[other] = otherNumber;
        return numbers;
    }

    private static void stageSumsAndDifferences() {
        sentence("Terms", "the place b + j gets a + e, the place b + j + h gets a - e");
        for (Ring ring : RINGS) {
            int end = ring.p - 1;
            // by the stage 0, e is c: a sum of p, one beyond it, a difference below 0, and one of 0
            ToneButterflies x = ring.of(new int[] {end, 1, end, end}, new int[] {0, 1, 0, end},
                new int[] {0, 0, end, 0}, new int[] {1, 2, 1, end});
            for (int row = 0; row < 4; row++) {
                x.stage(row, 0);
            }
            due(ring + "sums of p and of 2 * p - 2", numbers(x, 4, 0), text(0, end - 1, end - 1, 0));
            due(ring + "differences of -1 and of 1 - p", numbers(x, 4, 1), text(1, end, end, 1));
            due(ring + "of 0, and of p - 1 and 0", numbers(x, 4, 2), text(0, 0, end, end));
            due(ring + "of 1 and 2, and of 1 and p - 1", numbers(x, 4, 3), text(3, end, 0, 2));
        }
    }

    private static void foldedPlacesGoRound() {
        sentence("Terms", "of which the places, added, have the remainder k by n");
        for (Ring ring : RINGS) {
            int n = ring.n;
            foldedDue(ring, 0, 0, 0);
            foldedDue(ring, 0, n - 1, n - 1);
            foldedDue(ring, n - 1, 0, n - 1);
            foldedDue(ring, 1, n - 2, n - 1);
            foldedDue(ring, 1, n - 1, 0);
            foldedDue(ring, n - 1, 1, 0);
            foldedDue(ring, n / 2, n / 2, 0);
            foldedDue(ring, 2, n - 1, 1);
            foldedDue(ring, n - 1, n - 1, n - 2);
        }
    }

    private static void foldedDue(Ring ring, int place, int other, int want) {
        ToneButterflies x = ring.of(only(ring.n, place, ring.p - 1), only(ring.n, other, ring.p - 1));
        x.fold(0, 1);
        due(ring + "folded places " + place + " and " + other, numbers(x, ring.n, 0), text(only(ring.n, want, 1)));
    }

    // ---- Promise 1

    private static void newObject() {
        sentence("Promise 1", "Creates rows of 8 numbers by 17, all 0");
        ToneButterflies x = new ToneButterflies();
        int[] counts = {8, 17, 2, 9, 15, 3};
        for (int what = 0; what < 6; what++) {
            due("count(" + what + ")", x.count(what), counts[what]);
        }
        for (int row = 0; row < 4; row++) {
            due("row " + row, numbers(x, 8, row), text(0, 0, 0, 0, 0, 0, 0, 0));
        }
        due("set(3, 7, 16)", x.set(3, 7, 16), 0);
        due("at(3, 7)", x.at(3, 7), 16);
        due("at(3, 7) of another new object", new ToneButterflies().at(3, 7), 0);
        due("digest() of another new object", new ToneButterflies().digest(), 1776071488694011925L);
        refused(new ToneButterflies(), "at(3, 8)", PLACE, y -> y.at(3, 8));
        refused(new ToneButterflies(), "at(4, 0)", PLACE, y -> y.at(4, 0));
        refused(new ToneButterflies(), "times(3, 17)", VALUE, y -> y.times(3, 17));
        refused(new ToneButterflies(), "stage(3, 3)", PLACE, y -> y.stage(3, 3));
    }

    // ---- Promise 2

    private static void ring() {
        takesAnotherRing();
        everyRing();
        otherLengths();
        otherPrimes();
        lengthsThatDoNotDivide();
    }

    private static void takesAnotherRing() {
        sentence("Promise 2", "Takes another ring; all rows are 0 then");
        for (Ring before : RINGS) {
            for (Ring ring : RINGS) {
                ToneButterflies x = before.greatest();
                due(before + "then ring(" + ring.n + ", " + ring.p + ")", x.ring(ring.n, ring.p), ring.root);
                due(before + "then " + ring + "what is seen", look(x), look(ring.zeros()));
                // what lies beyond the end of a short row may not come back with a long one
                due(before + "then " + ring + "then ring(16, 17)", x.ring(16, 17), 3);
                due(before + "then " + ring + "then 16, 17: what is seen", look(x), look(RINGS[4].zeros()));
            }
        }
    }

    private static void everyRing() {
        sentence("Promise 2", "Returns its root");
        int[] of4 = {5, 2, 13, 5, 17, 4, 29, 12, 37, 6, 41, 9, 53, 23, 61, 11, 73, 27, 89, 34, 97, 22, 101, 10, 109, 33,
            113, 15, 137, 37, 149, 44, 157, 28, 173, 80, 181, 19, 193, 81, 197, 14, 229, 107, 233, 89, 241, 64, 257, 16,
            269, 82, 277, 60, 281, 53, 293, 138, 313, 25, 317, 114, 337, 148, 349, 136, 353, 42, 373, 104, 389, 115,
            397, 63, 401, 20, 409, 143, 421, 29, 433, 179, 449, 67, 457, 109, 461, 48};
        int[] of8 = {17, 2, 41, 3, 73, 10, 89, 12, 97, 33, 113, 18, 137, 10, 193, 9, 233, 12, 241, 8, 257, 4, 281, 60,
            313, 5, 337, 85, 353, 70, 401, 45, 409, 31, 433, 79, 449, 92, 457, 170};
        int[] of16 = {17, 3, 97, 8, 113, 35, 193, 3, 241, 44, 257, 2, 337, 30, 353, 36, 401, 30, 433, 151, 449, 35};
        everyRing(4, of4);
        everyRing(8, of8);
        everyRing(16, of16);
    }

    /** The primes that are given, each with its root, are taken, and no other number from -20 to 620. */
    private static void everyRing(int n, int... primesWithRoots) {
        int at = 0;
        for (int p = -20; p <= 620; p++) {
            int prime = p;
            boolean taken = at < primesWithRoots.length && primesWithRoots[at] == p;
            Object want = taken ? (Object) primesWithRoots[at + 1] : VALUE;
            due("ring(" + n + ", " + p + ")", answer(new ToneButterflies(), x -> x.ring(n, prime)), want);
            at += taken ? 2 : 0;
        }
    }

    private static void otherLengths() {
        sentence("Promise 2", "if n is not 4, 8 or 16");
        // each of these lengths but 0 divides p - 1 of its prime, so that it is refused for itself
        int[][] none = {{3, 7}, {5, 11}, {7, 29}, {9, 19}, {15, 31}, {17, 103}, {1, 5}, {2, 5}, {6, 7}, {10, 11},
            {12, 13}, {14, 29}, {32, 97}, {64, 193}, {256, 257}, {-1, 5}, {-2, 5}, {-4, 5}, {-8, 17}, {-16, 17},
            {0, 17}, {LEAST, 17}, {GREATEST, 17}};
        for (int[] pair : none) {
            refusedRing(pair[0], pair[1]);
        }
    }

    private static void refusedRing(int n, int p) {
        for (Ring ring : RINGS) {
            refused(ring, "ring(" + n + ", " + p + ")", VALUE, x -> x.ring(n, p));
        }
    }

    private static void otherPrimes() {
        sentence("Promise 2", "p is not a prime of 5 to 499");
        // each length divides p - 1 of each, so that they are refused for themselves: numbers below 5,
        // products of two primes (or squares of one), and primes beyond 499
        int[] of4 = {1, -3, -7, 9, 21, 25, 33, 45, 49, 65, 121, 169, 289, 361, 441, 469, 477, 481, 485, 489, 493, 497,
            501, 505, 509, 513, 521, 529, 541, LEAST + 1, GREATEST - 18};
        int[] of8 = {1, -7, -31, 9, 25, 33, 49, 65, 121, 169, 289, 361, 473, 481, 489, 497, 505, 521, 529, 569};
        int[] of16 = {1, -15, -31, 33, 49, 65, 81, 145, 161, 289, 465, 481, 497, 513, 529, 577, 593};
        int[][] all = {of4, of8, of16};
        int[] lengths = {4, 8, 16};
        for (int at = 0; at < 3; at++) {
            for (int p : all[at]) {
                refusedRing(lengths[at], p);
            }
            for (int p : new int[] {4, 3, 2, 0, -1, 6, 8, 16, 498, 499, 500, 503, LEAST, GREATEST}) {
                refusedRing(lengths[at], p);
            }
        }
        due("ring(4, 5)", RINGS[5].filled().ring(4, 5), 2);
        due("ring(4, 461)", RINGS[5].filled().ring(4, 461), 48);
    }

    private static void lengthsThatDoNotDivide() {
        sentence("Promise 2", "or n does not divide p - 1");
        int[][] none = {{4, 7}, {4, 11}, {4, 19}, {4, 491}, {4, 499}, {8, 5}, {8, 7}, {8, 13}, {8, 29}, {8, 461},
            {8, 499}, {16, 5}, {16, 7}, {16, 13}, {16, 41}, {16, 73}, {16, 457}, {16, 461}, {16, 499}};
        for (int[] pair : none) {
            refusedRing(pair[0], pair[1]);
        }
        due("ring(8, 457)", RINGS[0].filled().ring(8, 457), 170);
        due("ring(16, 449)", RINGS[0].filled().ring(16, 449), 35);
    }

    // ---- Promises 3 to 5

    private static void numbers() {
        numbersWithOrder();
        ordersOfAllNumbers();
        numbersWithInverse();
        inversesAtTheEnds();
        powersOfTheRoot();
        powersGoRound();
    }

    private static void numbersWithOrder() {
        sentence("Promise 3", "if number is not 1 to p - 1");
        for (Ring ring : RINGS) {
            only(ring, "order(number)", 1, ring.p, VALUE, (x, number) -> x.order(number));
        }
    }

    private static void ordersOfAllNumbers() {
        sentence("Promise 3", "Returns its order");
        int[] by5 = {1, 4, 4, 2};
        for (int number = 1; number < 5; number++) {
            due("order(" + number + ") by 5", RINGS[0].zeros().order(number), by5[number - 1]);
        }
        for (Ring ring : RINGS) {
            ToneButterflies x = ring.zeros();
            due(ring + "order(1)", x.order(1), 1);
            due(ring + "order(p - 1)", x.order(ring.p - 1), 2);
            changesNothing(ring, "order(2)", y -> y.order(2));
        }
    }

    private static void numbersWithInverse() {
        sentence("Promise 4", "if number is not 1 to p - 1");
        for (Ring ring : RINGS) {
            only(ring, "inverse(number)", 1, ring.p, VALUE, (x, number) -> x.inverse(number));
        }
    }

    private static void inversesAtTheEnds() {
        sentence("Promise 4", "Returns its inverse");
        for (Ring ring : RINGS) {
            ToneButterflies x = ring.zeros();
            due(ring + "inverse(1)", x.inverse(1), 1);
            due(ring + "inverse(p - 1)", x.inverse(ring.p - 1), ring.p - 1);
            due(ring + "inverse(2)", x.inverse(2), (ring.p + 1) / 2);
            due(ring + "inverse((p + 1) / 2)", x.inverse((ring.p + 1) / 2), 2);
            changesNothing(ring, "inverse(2)", y -> y.inverse(2));
        }
    }

    private static void powersOfTheRoot() {
        sentence("Promise 5", "if power is not 0 to 9999");
        for (Ring ring : RINGS) {
            only(ring, "root(power)", 0, 10000, VALUE, (x, power) -> x.root(power));
        }
    }

    private static void powersGoRound() {
        sentence("Promise 5", "Returns the root to this power");
        for (Ring ring : RINGS) {
            int n = ring.n;
            ToneButterflies x = ring.zeros();
            due(ring + "root(0)", x.root(0), 1);
            due(ring + "root(1)", x.root(1), ring.root);
            due(ring + "root(n / 2)", x.root(n / 2), ring.p - 1);
            due(ring + "root(n - 1)", x.root(n - 1), ring.rootInverse);
            due(ring + "root(n)", x.root(n), 1);
            due(ring + "root(n + 1)", x.root(n + 1), ring.root);
            due(ring + "root(9984)", x.root(9984), 1);
            due(ring + "root(9998)", x.root(9998), power(ring.rootInverse, 2, ring.p));
            due(ring + "root(9999)", x.root(9999), ring.rootInverse);
            changesNothing(ring, "root(9999)", y -> y.root(9999));
        }
    }

    // ---- Promises 6 and 7

    private static void setAndCopy() {
        setReturnsTheOneBefore();
        setRowsAndPlaces();
        setNumbers();
        copyReturnsTheChanged();
        copyIsTheSameThen();
        copyRows();
    }

    private static void setReturnsTheOneBefore() {
        sentence("Promise 6", "Returns the one before");
        for (Ring ring : RINGS) {
            int end = ring.p - 1;
            for (int row : new int[] {0, 3}) {
                for (int place : new int[] {0, ring.n - 1}) {
                    ToneButterflies x = ring.zeros();
                    String call = ring + "set(" + row + ", " + place + ", ";
                    due(call + "p - 1)", x.set(row, place, end), 0);
                    due(call + "p - 1) again", x.set(row, place, end), end);
                    due(call + "0)", x.set(row, place, 0), end);
                    due(call + "1)", x.set(row, place, 1), 0);
                    due(call + "..) then", numbers(x, ring.n, row), text(only(ring.n, place, 1)));
                }
            }
        }
    }

    private static void setRowsAndPlaces() {
        sentence("Promise 6", "if there is no such row or place");
        onlyRows0To3("set(row, 0, 1)", (x, row) -> x.set(row, 0, 1));
        onlyPlaces0ToEnd("set(0, place, 1)", (x, place) -> x.set(0, place, 1));
        onlyPlaces0ToEnd("set(3, place, 1)", (x, place) -> x.set(3, place, 1));
    }

    private static void setNumbers() {
        sentence("Promise 6", "if number is not 0 to p - 1");
        for (Ring ring : RINGS) {
            only(ring, "set(0, 0, number)", 0, ring.p, VALUE, (x, number) -> x.set(0, 0, number));
            only(ring, "set(3, 3, number)", 0, ring.p, VALUE, (x, number) -> x.set(3, 3, number));
        }
    }

    private static void copyReturnsTheChanged() {
        sentence("Promise 7", "Returns how many of its numbers are changed by it");
        for (Ring ring : RINGS) {
            int n = ring.n;
            due(ring + "copy of 0 to 0", ring.zeros().copy(0, 3), 0);
            due(ring + "copy of p - 1 to p - 1", ring.greatest().copy(3, 0), 0);
            due(ring + "copy of a row to itself", ring.filled().copy(3, 3), 0);
            due(ring + "copy of 0 to p - 1", ring.of(same(n, ring.p - 1)).copy(1, 0), n);
            due(ring + "copy of p - 1 to 0", ring.of(same(n, ring.p - 1)).copy(0, 1), n);
            due(ring + "copy to 1 at the place 0", ring.of(only(n, 0, 1)).copy(1, 0), 1);
            due(ring + "copy to 1 at the last place", ring.of(only(n, n - 1, 1)).copy(1, 0), 1);
            due(ring + "copy to all but one", ring.of(same(n, 1), only(n, 0, 1)).copy(0, 1), n - 1);
        }
    }

    private static void copyIsTheSameThen() {
        sentence("Promise 7", "the row that is the same then");
        for (Ring ring : RINGS) {
            int n = ring.n;
            ToneButterflies x = ring.filled();
            String row0 = numbers(x, n, 0);
            x.copy(0, 3);
            due(ring + "row 3", numbers(x, n, 3), row0);
            due(ring + "row 0", numbers(x, n, 0), row0);
            x.times(0, 0);
            due(ring + "row 3, when row 0 is 0", numbers(x, n, 3), row0);
            x.copy(3, 3);
            due(ring + "row 3, copied to itself", numbers(x, n, 3), row0);
        }
    }

    private static void copyRows() {
        sentence("Promise 7", "if there is no such row");
        onlyRows0To3("copy(row, 1)", (x, row) -> x.copy(row, 1));
        onlyRows0To3("copy(1, row)", (x, row) -> x.copy(1, row));
        onlyRows0To3("copy(row, row)", (x, row) -> x.copy(row, row));
    }

    // ---- Promises 8 to 10

    private static void turnMirrorStage() {
        turnOfZerosAndGreatest();
        turnReturnsThePlace0();
        turnRows();
        mirrorOfZerosAndGreatest();
        mirrorReturnsTheOthers();
        mirrorRows();
        stageOfZerosAndGreatest();
        stageReturnsThePlace0();
        stageRows();
        stagesLessThan0();
        stagesNotLessThanBits();
    }

    private static void turnOfZerosAndGreatest() {
        sentence("Promise 8", "Turns a row into its tones, or back");
        for (Ring ring : RINGS) {
            int n = ring.n;
            String zeros = text(same(n, 0));
            ToneButterflies x = ring.of(same(n, 0), same(n, 0), same(n, ring.p - 1), same(n, ring.p - 1));
            for (int row = 0; row < 4; row++) {
                x.turn(row, row % 2 == 1);
            }
            due(ring + "tones of 0", numbers(x, n, 0), zeros);
            due(ring + "turned back of 0", numbers(x, n, 1), zeros);
            due(ring + "tones of p - 1", numbers(x, n, 2), text(only(n, 0, ring.p - n)));
            due(ring + "turned back of p - 1", numbers(x, n, 3), text(only(n, 0, ring.p - 1)));
            ToneButterflies y = ring.filled();
            String before = look(y);
            for (int row = 0; row < 4; row++) {
                y.turn(row, row % 2 == 1);
                y.turn(row, row % 2 == 0);
            }
            due(ring + "turned into tones and back", look(y), before);
        }
    }

    private static void turnReturnsThePlace0() {
        sentence("Promise 8", "Returns the number at its place 0 then");
        for (Ring ring : RINGS) {
            int n = ring.n;
            due(ring + "turn(3, false) of 0", ring.zeros().turn(3, false), 0);
            due(ring + "turn(3, true) of 0", ring.zeros().turn(3, true), 0);
            due(ring + "turn(3, false) of the row 3 alone", ring.with(3, same(n, 1)).turn(3, false), n);
            due(ring + "turn(3, true) of the row 3 alone", ring.with(3, same(n, 1)).turn(3, true), 1);
            due(ring + "turn(3, false) of p - 1", ring.greatest().turn(3, false), ring.p - n);
            due(ring + "turn(3, true) of p - 1", ring.greatest().turn(3, true), ring.p - 1);
            int[] last = only(n, n - 1, ring.p - 1);
            due(ring + "turn(0, false) of the last place", ring.of(last).turn(0, false), ring.p - 1);
            due(ring + "turn(0, true) of the last place", ring.of(last).turn(0, true), ring.p - ring.lengthInverse);
        }
    }

    private static void turnRows() {
        sentence("Promise 8", "if there is no such row");
        onlyRows0To3("turn(row, false)", (x, row) -> x.turn(row, false));
        onlyRows0To3("turn(row, true)", (x, row) -> x.turn(row, true));
    }

    private static void mirrorOfZerosAndGreatest() {
        sentence("Promise 9", "Mirrors the places of a row");
        for (Ring ring : RINGS) {
            ToneButterflies x = ring.filled();
            String before = look(x);
            x.mirror(3);
            x.mirror(3);
            due(ring + "mirrored twice", look(x), before);
            ToneButterflies y = ring.greatest();
            before = look(y);
            y.mirror(3);
            due(ring + "p - 1 mirrored", look(y), before);
        }
    }

    private static void mirrorReturnsTheOthers() {
        sentence("Promise 9", "Returns how many places have another number then");
        for (Ring ring : RINGS) {
            int n = ring.n;
            due(ring + "mirror of 0", ring.zeros().mirror(3), 0);
            due(ring + "mirror of p - 1", ring.greatest().mirror(3), 0);
            due(ring + "mirror of the place 0", ring.of(only(n, 0, 1)).mirror(0), 0);
            due(ring + "mirror of the last place", ring.of(only(n, n - 1, 1)).mirror(0), 0);
            due(ring + "mirror of the place 1", ring.of(only(n, 1, 1)).mirror(0), 2);
            due(ring + "mirror of the row 3 alone", ring.with(3, only(n, n / 2, 1)).mirror(3), 2);
            // each place but those whose bits are the same in the turned order: 2, 4 and 4 of them
            int others = n == 4 ? 2 : n == 8 ? 4 : 12;
            due(ring + "mirror of different numbers", ring.of(places(n)).mirror(0), others);
        }
    }

    private static void mirrorRows() {
        sentence("Promise 9", "if there is no such row");
        onlyRows0To3("mirror(row)", (x, row) -> x.mirror(row));
    }

    private static void stageOfZerosAndGreatest() {
        sentence("Promise 10", "Takes a row through one stage");
        for (Ring ring : RINGS) {
            int n = ring.n;
            for (int stage = 0; stage < ring.bits; stage++) {
                int h = 1 << stage;
                int[] want = new int[n];
                for (int place = 0; place < n; place++) {
                    // each number is -1, so that e is -(w to the power of j * n / (2 * h))
                    int e = ring.p - power(ring.root, place % h * n / (2 * h), ring.p);
                    boolean first = place % (2 * h) < h;
                    want[place] = (ring.p - 1 + (first ? e : ring.p - e)) % ring.p;
                }
                ToneButterflies x = ring.of(same(n, ring.p - 1));
                x.stage(0, stage);
                x.stage(3, stage);
                due(ring + "stage " + stage + " of p - 1", numbers(x, n, 0), text(want));
                due(ring + "stage " + stage + " of 0", numbers(x, n, 3), text(same(n, 0)));
            }
        }
    }

    private static void stageReturnsThePlace0() {
        sentence("Promise 10", "Returns the number at its place 0 then");
        for (Ring ring : RINGS) {
            for (int stage = 0; stage < ring.bits; stage++) {
                String call = ring + "stage(3, " + stage + ") of ";
                int h = 1 << stage;
                int s = stage;
                due(call + "0", ring.zeros().stage(3, s), 0);
                due(call + "p - 1", ring.greatest().stage(3, s), ring.p - 2);
                due(call + "the row 3 alone", ring.with(3, only(ring.n, h, 1)).stage(3, s), 1);
                due(call + "1 and p - 1", ring.of(pair(ring.n, 0, 1, h, ring.p - 1)).stage(0, s), 0);
                due(call + "0 and p - 1", ring.of(only(ring.n, h, ring.p - 1)).stage(0, s), ring.p - 1);
            }
        }
    }

    private static void stageRows() {
        sentence("Promise 10", "if there is no such row");
        onlyRows0To3("stage(row, 0)", (x, row) -> x.stage(row, 0));
        onlyRows0To3("stage(row, 1)", (x, row) -> x.stage(row, 1));
    }

    private static void stagesLessThan0() {
        sentence("Promise 10", "or stage is less than 0");
        for (Ring ring : RINGS) {
            due(ring + "stage(3, 0) is refused", answer(ring.filled(), x -> x.stage(3, 0)) instanceof Class, false);
            for (int stage : new int[] {-1, -2, -31, -32, LEAST}) {
                refused(ring, "stage(3, " + stage + ")", PLACE, x -> x.stage(3, stage));
            }
        }
    }

    private static void stagesNotLessThanBits() {
        sentence("Promise 10", "or not less than the number of bits of a place");
        for (Ring ring : RINGS) {
            int last = ring.bits - 1;
            Object got = answer(ring.filled(), x -> x.stage(3, last));
            due(ring + "stage(3, last) is refused", got instanceof Class, false);
            for (int stage : new int[] {ring.bits, ring.bits + 1, ring.n, 31, 32, GREATEST}) {
                refused(ring, "stage(3, " + stage + ")", PLACE, x -> x.stage(3, stage));
            }
        }
    }

    // ---- Promises 11 and 12

    private static void foldAndJoin() {
        foldOfZerosAndGreatest();
        foldWithItself();
        foldReturnsThePlace0();
        foldRows();
        joinWithItself();
        joinOfZerosAndGreatest();
        joinReturnsTheNumbers();
        joinRows();
        joinWhat();
    }

    private static void foldOfZerosAndGreatest() {
        sentence("Promise 11", "Folds two rows into the first one; the second one stays");
        for (Ring ring : RINGS) {
            int n = ring.n;
            int end = ring.p - 1;
            ToneButterflies x = ring.of(same(n, end), same(n, end), same(n, 0), only(n, n - 1, end));
            x.fold(0, 1);
            due(ring + "p - 1 folded with p - 1", numbers(x, n, 0), text(same(n, n)));
            due(ring + "the second one", numbers(x, n, 1), text(same(n, end)));
            x.fold(1, 3);
            due(ring + "p - 1 folded with a last place", numbers(x, n, 1), text(same(n, 1)));
            due(ring + "the second one", numbers(x, n, 3), text(only(n, n - 1, end)));
            x.fold(0, 2);
            due(ring + "folded with 0", numbers(x, n, 0), text(same(n, 0)));
            x.fold(2, 3);
            due(ring + "0 folded", numbers(x, n, 2), text(same(n, 0)));
            due(ring + "the second one", numbers(x, n, 3), text(only(n, n - 1, end)));
        }
    }

    private static void foldWithItself() {
        sentence("Promise 11", "(if both are the same, it is folded with itself)");
        for (Ring ring : RINGS) {
            int n = ring.n;
            int end = ring.p - 1;
            ToneButterflies x = ring.of(same(n, end), only(n, n - 1, end), same(n, 0), pair(n, 0, 1, n - 1, end));
            for (int row = 0; row < 4; row++) {
                x.fold(row, row);
            }
            due(ring + "p - 1 with itself", numbers(x, n, 0), text(same(n, n)));
            due(ring + "a last place with itself", numbers(x, n, 1), text(only(n, n - 2, 1)));
            due(ring + "0 with itself", numbers(x, n, 2), text(same(n, 0)));
            int[] square = pair(n, 0, 1, n - 1, end - 1);
            square[n - 2] = 1;
            due(ring + "first and last place with itself", numbers(x, n, 3), text(square));
        }
    }

    private static void foldReturnsThePlace0() {
        sentence("Promise 11", "Returns the number at the place 0 of the first one then");
        for (Ring ring : RINGS) {
            int n = ring.n;
            int end = ring.p - 1;
            due(ring + "fold of 0", ring.zeros().fold(3, 0), 0);
            due(ring + "fold of p - 1", ring.greatest().fold(0, 3), n);
            due(ring + "fold of p - 1 with itself", ring.greatest().fold(3, 3), n);
            due(ring + "fold of the row 3 alone", ring.with(3, same(n, 1)).fold(3, 3), n);
            due(ring + "fold of 1 and last", ring.of(only(n, 1, end), only(n, n - 1, 1)).fold(0, 1), end);
            due(ring + "fold of two last", ring.of(only(n, n - 1, end), only(n, n - 1, 1)).fold(0, 1), 0);
        }
    }

    private static void foldRows() {
        sentence("Promise 11", "if there is no such row");
        onlyRows0To3("fold(row, 1)", (x, row) -> x.fold(row, 1));
        onlyRows0To3("fold(1, row)", (x, row) -> x.fold(1, row));
        onlyRows0To3("fold(row, row)", (x, row) -> x.fold(row, row));
    }

    private static void joinWithItself() {
        sentence("Promise 12", "Joins two rows in the first one, place by place; the second one stays");
        for (Ring ring : RINGS) {
            int end = ring.p - 1;
            int[] numbers = {0, 1, 2, end};
            int[][] want = {{0, 2, 4, end - 1}, {0, 0, 0, 0}, {0, 1, 4, 1}};
            for (int what = 0; what < 3; what++) {
                ToneButterflies x = ring.of(numbers, new int[] {end, 0, 1, end}, numbers, numbers);
                x.join(0, 0, what);
                due(ring + "joined with itself by " + what, numbers(x, 4, 0), text(want[what]));
                x.join(1, 3, what);
                due(ring + "the second one by " + what, numbers(x, 4, 3), text(numbers));
                due(ring + "the row between by " + what, numbers(x, 4, 2), text(numbers));
            }
        }
    }

    private static void joinOfZerosAndGreatest() {
        sentence("Promise 12", "0 by sums, 1 by differences, 2 by products");
        for (Ring ring : RINGS) {
            int n = ring.n;
            int p = ring.p;
            int[] zeros = same(n, 0);
            int[] ends = same(n, p - 1);
            joinedDue(ring, zeros, zeros, 0, 0, 0);
            joinedDue(ring, zeros, ends, p - 1, 1, 0);
            joinedDue(ring, ends, zeros, p - 1, p - 1, 0);
            joinedDue(ring, ends, ends, p - 2, 0, 1);
            joinedDue(ring, ends, same(n, 1), 0, p - 2, p - 1);
            joinedDue(ring, same(n, 1), ends, 0, 2, p - 1);
        }
    }

    private static void joinedDue(Ring ring, int[] first, int[] second, int... want) {
        for (int what = 0; what < 3; what++) {
            ToneButterflies x = ring.of(first, second);
            x.join(0, 1, what);
            due(ring + text(first) + " joined by " + what + " with " + text(second),
                numbers(x, ring.n, 0), text(same(ring.n, want[what])));
        }
    }

    private static void joinReturnsTheNumbers() {
        sentence("Promise 12", "Returns how many numbers of the first one are not 0 then");
        for (Ring ring : RINGS) {
            int n = ring.n;
            int end = ring.p - 1;
            due(ring + "sums of 0", ring.zeros().join(0, 3, 0), 0);
            due(ring + "sums in the row 3 alone", ring.with(3, same(n, 1)).join(3, 0, 0), n);
            due(ring + "sums of p", ring.of(same(n, 1), same(n, end)).join(0, 1, 0), 0);
            due(ring + "sums of p - 1", ring.greatest().join(3, 0, 0), n);
            due(ring + "differences of p - 1", ring.greatest().join(3, 0, 1), 0);
            due(ring + "differences of a last place", ring.of(only(n, n - 1, 1)).join(1, 0, 1), 1);
            due(ring + "products of p - 1", ring.greatest().join(3, 0, 2), n);
            due(ring + "products with a last place", ring.of(same(n, end), only(n, n - 1, end)).join(0, 1, 2), 1);
            due(ring + "products with a place 0", ring.of(same(n, end), only(n, 0, end)).join(0, 1, 2), 1);
        }
    }

    private static void joinRows() {
        sentence("Promise 12", "if there is no such row");
        for (int what = 0; what < 3; what++) {
            int way = what;
            onlyRows0To3("join(row, 1, " + way + ")", (x, row) -> x.join(row, 1, way));
            onlyRows0To3("join(1, row, " + way + ")", (x, row) -> x.join(1, row, way));
        }
        onlyRows0To3("join(row, row, 0)", (x, row) -> x.join(row, row, 0));
    }

    private static void joinWhat() {
        sentence("Promise 12", "or what is not 0 to 2");
        for (Ring ring : RINGS) {
            only(ring, "join(3, 0, what)", 0, 3, PLACE, (x, what) -> x.join(3, 0, what));
            only(ring, "join(1, 1, what)", 0, 3, PLACE, (x, what) -> x.join(1, 1, what));
        }
    }

    // ---- Promises 13 and 14

    private static void moveAndTimes() {
        moveGoesRound();
        moveReturnsThePlace0();
        moveRows();
        moveBy();
        timesOfZerosAndGreatest();
        timesReturnsTheNumbers();
        timesRows();
        timesBy();
    }

    private static void moveGoesRound() {
        sentence("Promise 13", "each number goes so many places on, those beyond the end to the beginning");
        for (Ring ring : RINGS) {
            int n = ring.n;
            for (int by = 0; by < n; by++) {
                ToneButterflies x = ring.of(places(n), only(n, n - 1, ring.p - 1), same(n, ring.p - 1));
                int[] want = new int[n];
                for (int place = 0; place < n; place++) {
                    want[place] = place >= by ? place - by : place + n - by;
                }
                for (int row = 0; row < 4; row++) {
                    x.move(row, by);
                }
                due(ring + "moved by " + by, numbers(x, n, 0), text(want));
                int last = by == 0 ? n - 1 : by - 1;
                due(ring + "the last place moved by " + by, numbers(x, n, 1), text(only(n, last, ring.p - 1)));
                due(ring + "p - 1 moved by " + by, numbers(x, n, 2), text(same(n, ring.p - 1)));
                due(ring + "0 moved by " + by, numbers(x, n, 3), text(same(n, 0)));
            }
        }
    }

    private static void moveReturnsThePlace0() {
        sentence("Promise 13", "Returns the number at its place 0 then");
        for (Ring ring : RINGS) {
            int n = ring.n;
            due(ring + "move(0, 0)", ring.of(places(n)).move(0, 0), 0);
            due(ring + "move(0, 1)", ring.of(places(n)).move(0, 1), n - 1);
            due(ring + "move(0, n - 1)", ring.of(places(n)).move(0, n - 1), 1);
            due(ring + "move(3, 0)", ring.with(3, only(n, 0, 1)).move(3, 0), 1);
            due(ring + "move(3, 1)", ring.with(3, places(n)).move(3, 1), n - 1);
            due(ring + "move(3, n - 1)", ring.with(3, places(n)).move(3, n - 1), 1);
            due(ring + "move(3, n - 1) of p - 1", ring.greatest().move(3, n - 1), ring.p - 1);
            due(ring + "move(3, 1) of 0", ring.zeros().move(3, 1), 0);
        }
    }

    private static void moveRows() {
        sentence("Promise 13", "if there is no such row");
        onlyRows0To3("move(row, 0)", (x, row) -> x.move(row, 0));
        onlyRows0To3("move(row, 3)", (x, row) -> x.move(row, 3));
    }

    private static void moveBy() {
        sentence("Promise 13", "if by is not 0 to n - 1");
        for (Ring ring : RINGS) {
            only(ring, "move(0, by)", 0, ring.n, VALUE, (x, by) -> x.move(0, by));
            only(ring, "move(3, by)", 0, ring.n, VALUE, (x, by) -> x.move(3, by));
        }
    }

    private static void timesOfZerosAndGreatest() {
        sentence("Promise 14", "Multiplies all numbers of a row");
        for (Ring ring : RINGS) {
            int n = ring.n;
            int end = ring.p - 1;
            for (int[] by : new int[][] {{0, 0}, {1, end}, {2, end - 1}, {end, 1}}) {
                ToneButterflies x = ring.of(same(n, end));
                x.times(0, by[0]);
                x.times(3, by[0]);
                due(ring + "p - 1 times " + by[0], numbers(x, n, 0), text(same(n, by[1])));
                due(ring + "0 times " + by[0], numbers(x, n, 3), text(same(n, 0)));
            }
        }
    }

    private static void timesReturnsTheNumbers() {
        sentence("Promise 14", "Returns how many of them are not 0 then");
        for (Ring ring : RINGS) {
            int n = ring.n;
            int end = ring.p - 1;
            due(ring + "0 times p - 1", ring.zeros().times(3, end), 0);
            due(ring + "p - 1 times 0", ring.greatest().times(3, 0), 0);
            due(ring + "p - 1 times p - 1", ring.greatest().times(3, end), n);
            due(ring + "the row 3 alone times p - 1", ring.with(3, same(n, 1)).times(3, end), n);
            due(ring + "a last place times p - 1", ring.of(only(n, n - 1, end)).times(0, end), 1);
            due(ring + "a place 0 times 1", ring.of(only(n, 0, end)).times(0, 1), 1);
        }
    }

    private static void timesRows() {
        sentence("Promise 14", "if there is no such row");
        onlyRows0To3("times(row, 0)", (x, row) -> x.times(row, 0));
        onlyRows0To3("times(row, 2)", (x, row) -> x.times(row, 2));
    }

    private static void timesBy() {
        sentence("Promise 14", "if by is not 0 to p - 1");
        for (Ring ring : RINGS) {
            only(ring, "times(0, by)", 0, ring.p, VALUE, (x, by) -> x.times(0, by));
            only(ring, "times(3, by)", 0, ring.p, VALUE, (x, by) -> x.times(3, by));
        }
    }

    // ---- Promises 15 to 18

    private static void whatThereIs() {
        atTheEnds();
        atRowsAndPlaces();
        pointOfZerosAndGreatest();
        pointPower0();
        pointRows();
        pointX();
        aboutSum();
        aboutNumbers();
        aboutGreatestPlace();
        aboutMove();
        aboutGreatestNumber();
        aboutRows();
        aboutWhat();
        countAtTheEnds();
        countWhat();
    }

    private static void atTheEnds() {
        sentence("Promise 15", "Returns the number there");
        for (Ring ring : RINGS) {
            int n = ring.n;
            ToneButterflies x = ring.of(pair(n, 0, 1, n - 1, 2), only(n, 0, 3), only(n, n - 1, 4),
                pair(n, 0, 2, n - 1, 1));
            int[][] corners = {{0, 0, 1}, {0, n - 1, 2}, {1, 0, 3}, {1, n - 1, 0}, {2, 0, 0}, {2, n - 1, 4}, {3, 0, 2},
                {3, n - 1, 1}};
            for (int[] corner : corners) {
                due(ring + "at(" + corner[0] + ", " + corner[1] + ")", x.at(corner[0], corner[1]), corner[2]);
            }
            due(ring + "at(3, n - 1) of p - 1", ring.greatest().at(3, n - 1), ring.p - 1);
            changesNothing(ring, "at(3, n - 1)", y -> y.at(3, n - 1));
        }
    }

    private static void atRowsAndPlaces() {
        sentence("Promise 15", "if there is no such row or place");
        onlyRows0To3("at(row, 0)", (x, row) -> x.at(row, 0));
        onlyRows0To3("at(row, 3)", (x, row) -> x.at(row, 3));
        onlyPlaces0ToEnd("at(0, place)", (x, place) -> x.at(0, place));
        onlyPlaces0ToEnd("at(3, place)", (x, place) -> x.at(3, place));
    }

    private static void pointOfZerosAndGreatest() {
        sentence("Promise 16", "Returns the sum, over all places i, of its number there times x to the power of i");
        for (Ring ring : RINGS) {
            int n = ring.n;
            int end = ring.p - 1;
            due(ring + "of 0 at p - 1", ring.zeros().point(3, end), 0);
            due(ring + "of p - 1 at 1", ring.greatest().point(3, 1), ring.p - n);
            due(ring + "of p - 1 at p - 1", ring.greatest().point(3, end), 0);
            due(ring + "of p - 1 at w", ring.greatest().point(3, ring.root), 0);
            due(ring + "of a last place at 1", ring.of(only(n, n - 1, end)).point(0, 1), end);
            due(ring + "of a last place at p - 1", ring.of(only(n, n - 1, end)).point(0, end), 1);
            due(ring + "of a last place at w", ring.of(only(n, n - 1, 1)).point(0, ring.root), ring.rootInverse);
            due(ring + "of a sum of p at 1", ring.of(pair(n, 0, 1, n - 1, end)).point(0, 1), 0);
            due(ring + "of the row 3 alone at 1", ring.with(3, only(n, n - 1, end)).point(3, 1), end);
            int atRoot = ring.with(3, only(n, n - 1, 1)).point(3, ring.root);
            due(ring + "of the row 3 alone at w", atRoot, ring.rootInverse);
            changesNothing(ring, "point(3, p - 1)", x -> x.point(3, end));
        }
    }

    private static void pointPower0() {
        sentence("Promise 16", "(the power 0 of each is 1)");
        for (Ring ring : RINGS) {
            int n = ring.n;
            int end = ring.p - 1;
            due(ring + "of p - 1 at 0", ring.greatest().point(3, 0), end);
            due(ring + "of 0 at 0", ring.zeros().point(3, 0), 0);
            due(ring + "of all but the place 0 at 0", ring.of(pair(n, 1, end, n - 1, end)).point(0, 0), 0);
            due(ring + "of the place 0 at 0", ring.of(only(n, 0, end)).point(0, 0), end);
            due(ring + "of the place 0 of the row 3 at 0", ring.with(3, only(n, 0, end)).point(3, 0), end);
            due(ring + "of the place 0 at p - 1", ring.of(only(n, 0, end)).point(0, end), end);
        }
    }

    private static void pointRows() {
        sentence("Promise 16", "if there is no such row");
        onlyRows0To3("point(row, 0)", (x, row) -> x.point(row, 0));
        onlyRows0To3("point(row, 4)", (x, row) -> x.point(row, 4));
    }

    private static void pointX() {
        sentence("Promise 16", "if x is not 0 to p - 1");
        for (Ring ring : RINGS) {
            only(ring, "point(0, number)", 0, ring.p, VALUE, (x, number) -> x.point(0, number));
            only(ring, "point(3, number)", 0, ring.p, VALUE, (x, number) -> x.point(3, number));
        }
    }

    private static void aboutSum() {
        sentence("Promise 17", "0 its sum");
        for (Ring ring : RINGS) {
            int n = ring.n;
            int end = ring.p - 1;
            due(ring + "of 0", ring.zeros().about(3, 0), 0);
            due(ring + "of p - 1", ring.greatest().about(3, 0), ring.p - n);
            due(ring + "p - 1", ring.of(only(n, n - 1, end)).about(0, 0), end);
            due(ring + "p", ring.of(pair(n, 0, 1, n - 1, end)).about(0, 0), 0);
            due(ring + "p + 1", ring.of(pair(n, 0, 2, n - 1, end)).about(0, 0), 1);
        }
    }

    private static void aboutNumbers() {
        sentence("Promise 17", "1 how many of its numbers are not 0");
        for (Ring ring : RINGS) {
            int n = ring.n;
            due(ring + "of 0", ring.zeros().about(3, 1), 0);
            due(ring + "of p - 1", ring.greatest().about(3, 1), n);
            due(ring + "of the place 0", ring.of(only(n, 0, 1)).about(0, 1), 1);
            due(ring + "of the last place", ring.of(only(n, n - 1, 1)).about(0, 1), 1);
            ToneButterflies x = ring.greatest();
            x.set(3, n - 1, 0);
            due(ring + "of all but the last place", x.about(3, 1), n - 1);
        }
    }

    private static void aboutGreatestPlace() {
        sentence("Promise 17", "2 the greatest place with another number than 0, -1 without one");
        for (Ring ring : RINGS) {
            int n = ring.n;
            due(ring + "of 0", ring.zeros().about(3, 2), -1);
            due(ring + "of p - 1", ring.greatest().about(3, 2), n - 1);
            for (int place = 0; place < n; place++) {
                due(ring + "of the place " + place, ring.of(only(n, place, 1)).about(0, 2), place);
                int[] two = pair(n, 0, 1, place, ring.p - 1);
                due(ring + "of the places 0 and " + place, ring.of(two).about(0, 2), place);
            }
        }
    }

    private static void aboutMove() {
        sentence("Promise 17", "3 the least number of places, 1 or more, by which it is the same when it is moved");
        for (Ring ring : RINGS) {
            int n = ring.n;
            int end = ring.p - 1;
            due(ring + "of 0", ring.zeros().about(3, 3), 1);
            due(ring + "of p - 1", ring.greatest().about(3, 3), 1);
            due(ring + "of two by turns", ring.of(byTurns(n, 0, end)).about(0, 3), 2);
            due(ring + "of halves", ring.of(pair(n, 0, end, n / 2, end)).about(0, 3), n / 2);
            due(ring + "of the last places of halves", ring.of(pair(n, n / 2 - 1, 1, n - 1, 1)).about(0, 3), n / 2);
            due(ring + "of halves but for a number", ring.of(pair(n, 0, end, n / 2, end - 1)).about(0, 3), n);
            due(ring + "of the place 0", ring.of(only(n, 0, 1)).about(0, 3), n);
            due(ring + "of the last place", ring.of(only(n, n - 1, 1)).about(0, 3), n);
            int[] twice = byTurns(n, end, 0);
            twice[n - 1] = 1;
            due(ring + "of two by turns but for the last place", ring.of(twice).about(0, 3), n);
        }
    }

    private static void aboutGreatestNumber() {
        sentence("Promise 17", "4 its greatest number");
        for (Ring ring : RINGS) {
            int n = ring.n;
            int end = ring.p - 1;
            due(ring + "of 0", ring.zeros().about(3, 4), 0);
            due(ring + "of p - 1", ring.greatest().about(3, 4), end);
            due(ring + "at the place 0", ring.of(pair(n, 0, end, n - 1, 1)).about(0, 4), end);
            due(ring + "at the last place", ring.of(pair(n, 0, 1, n - 1, end)).about(0, 4), end);
            due(ring + "of one 1", ring.of(only(n, n - 1, 1)).about(0, 4), 1);
        }
    }

    private static void aboutRows() {
        sentence("Promise 17", "if there is no such row");
        for (int what = 0; what < 5; what++) {
            int way = what;
            onlyRows0To3("about(row, " + way + ")", (x, row) -> x.about(row, way));
        }
    }

    private static void aboutWhat() {
        sentence("Promise 17", "or what is not 0 to 4");
        for (Ring ring : RINGS) {
            only(ring, "about(0, what)", 0, 5, PLACE, (x, what) -> x.about(0, what));
            only(ring, "about(3, what)", 0, 5, PLACE, (x, what) -> x.about(3, what));
            for (int what = 0; what < 5; what++) {
                int way = what;
                changesNothing(ring, "about(3, " + what + ")", x -> x.about(3, way));
            }
        }
    }

    private static void countAtTheEnds() {
        sentence("Promise 18",
            "0 the length, 1 the prime, 2 the root, 3 its inverse, 4 the inverse of the length, 5 bits of a place");
        for (Ring ring : RINGS) {
            int[] counts = {ring.n, ring.p, ring.root, ring.rootInverse, ring.lengthInverse, ring.bits};
            for (int what = 0; what < 6; what++) {
                int way = what;
                due(ring + "count(" + what + ")", ring.zeros().count(what), counts[what]);
                due(ring + "count(" + what + ") with rows of p - 1", ring.greatest().count(what), counts[what]);
                changesNothing(ring, "count(" + what + ")", x -> x.count(way));
            }
        }
    }

    private static void countWhat() {
        sentence("Promise 18", "if what is not 0 to 5");
        for (Ring ring : RINGS) {
            only(ring, "count(what)", 0, 6, PLACE, (x, what) -> x.count(what));
        }
    }

    // ---- Promises 19 to 21

    private static void wouldComesAdvise() {
        wouldBeFolded();
        wouldChangesNothing();
        wouldRowsAndPlaces();
        comesLeast();
        comesNever();
        comesChangesNothing();
        comesRows();
        adviseGreatest();
        adviseByRemainders();
        adviseOfSeveralTheLeast();
        adviseChangesNothing();
        adviseRows();
    }

    private static void wouldBeFolded() {
        sentence("Promise 19", "Returns the number there, if both were folded");
        for (Ring ring : RINGS) {
            int n = ring.n;
            int end = ring.p - 1;
            for (int place : new int[] {0, 1, n - 2, n - 1}) {
                String call = ring + "would(.., .., " + place + ") ";
                due(call + "of 0", ring.zeros().would(0, 3, place), 0);
                due(call + "of p - 1", ring.greatest().would(0, 3, place), n);
                due(call + "of p - 1 with itself", ring.greatest().would(3, 3, place), n);
                ToneButterflies x = ring.of(only(n, n - 1, end), only(n, 1, end), only(n, n - 1, 1));
                due(call + "of last and 1", x.would(0, 1, place), place == 0 ? 1 : 0);
                due(call + "of 1 and last", x.would(1, 0, place), place == 0 ? 1 : 0);
                due(call + "of two last", x.would(0, 2, place), place == n - 2 ? end : 0);
                due(call + "of last with itself", x.would(2, 2, place), place == n - 2 ? 1 : 0);
                ToneButterflies y = ring.filled();
                int told = y.would(0, 1, place);
                y.fold(0, 1);
                due(call + "of some rows, and folded", told, y.at(0, place));
            }
        }
    }

    private static void wouldChangesNothing() {
        sentence("Promise 19", "(nothing is changed)");
        for (Ring ring : RINGS) {
            changesNothing(ring, "would(0, 3, 0)", x -> x.would(0, 3, 0));
            changesNothing(ring, "would(3, 0, n - 1)", x -> x.would(3, 0, ring.n - 1));
            changesNothing(ring, "would(2, 2, 1)", x -> x.would(2, 2, 1));
        }
    }

    private static void wouldRowsAndPlaces() {
        sentence("Promise 19", "if there is no such row or place");
        onlyRows0To3("would(row, 1, 0)", (x, row) -> x.would(row, 1, 0));
        onlyRows0To3("would(1, row, 3)", (x, row) -> x.would(1, row, 3));
        onlyRows0To3("would(row, row, 0)", (x, row) -> x.would(row, row, 0));
        onlyPlaces0ToEnd("would(0, 3, place)", (x, place) -> x.would(0, 3, place));
        onlyPlaces0ToEnd("would(3, 3, place)", (x, place) -> x.would(3, 3, place));
    }

    private static void comesLeast() {
        sentence("Promise 20", "Returns the least number of places, 0 or more, by which the first one has to be moved");
        for (Ring ring : RINGS) {
            int n = ring.n;
            due(ring + "of 0", ring.zeros().comes(0, 3), 0);
            due(ring + "of p - 1", ring.greatest().comes(3, 0), 0);
            due(ring + "of a row and itself", ring.filled().comes(3, 3), 0);
            for (int by = 0; by < n; by++) {
                ToneButterflies x = ring.of(places(n), places(n));
                x.move(1, by);
                due(ring + "of a row and itself, moved by " + by, x.comes(0, 1), by);
                due(ring + "of a row, moved by " + by + ", and itself", x.comes(1, 0), by == 0 ? 0 : n - by);
            }
            ToneButterflies y = ring.of(byTurns(n, 0, 1), byTurns(n, 1, 0), pair(n, 0, 1, n / 2, 1),
                pair(n, n / 2 - 1, 1, n - 1, 1));
            due(ring + "of two by turns", y.comes(0, 1), 1);
            due(ring + "of halves", y.comes(2, 3), n / 2 - 1);
            due(ring + "of halves and themselves", y.comes(2, 2), 0);
        }
    }

    private static void comesNever() {
        sentence("Promise 20", "-1 if it never is");
        for (Ring ring : RINGS) {
            int n = ring.n;
            int end = ring.p - 1;
            due(ring + "of p - 1 and 0", ring.of(same(n, end)).comes(0, 1), -1);
            due(ring + "of 0 and p - 1", ring.of(same(n, end)).comes(1, 0), -1);
            due(ring + "of 0 and a last place", ring.of(only(n, n - 1, 1)).comes(1, 0), -1);
            due(ring + "of a last place and 0", ring.of(only(n, n - 1, 1)).comes(0, 1), -1);
            for (int place = 0; place < n; place++) {
                ToneButterflies x = ring.of(places(n), places(n));
                x.set(1, place, x.at(1, place) == end ? 0 : end);
                due(ring + "of two rows that are the same but for the place " + place, x.comes(0, 1), -1);
            }
        }
    }

    private static void comesChangesNothing() {
        sentence("Promise 20", "(nothing is changed)");
        for (Ring ring : RINGS) {
            changesNothing(ring, "comes(0, 3)", x -> x.comes(0, 3));
            changesNothing(ring, "comes(3, 3)", x -> x.comes(3, 3));
        }
    }

    private static void comesRows() {
        sentence("Promise 20", "if there is no such row");
        onlyRows0To3("comes(row, 1)", (x, row) -> x.comes(row, 1));
        onlyRows0To3("comes(1, row)", (x, row) -> x.comes(1, row));
        onlyRows0To3("comes(row, row)", (x, row) -> x.comes(row, row));
    }

    private static void adviseGreatest() {
        sentence("Promise 21", "Returns the number of places by which the first one had best be moved");
        for (Ring ring : RINGS) {
            int n = ring.n;
            int end = ring.p - 1;
            for (int place = 0; place < n; place++) {
                ToneButterflies x = ring.of(only(n, 0, 1), only(n, place, end), only(n, n - 1, 1));
                due(ring + "of the place 0 and " + place, x.advise(0, 1), place);
                due(ring + "of the place " + place + " and 0", x.advise(1, 0), place == 0 ? 0 : n - place);
                due(ring + "of the last place and " + place, x.advise(2, 1), (place + 1) % n);
            }
        }
    }

    private static void adviseByRemainders() {
        sentence("Promise 21", "so that the products of numbers at the same places, added, are the greatest number");
        for (Ring ring : RINGS) {
            int n = ring.n;
            int p = ring.p;
            int half = (p + 1) / 2;
            // not moved, the sum is p, which is 0; moved by n - 1 it is p - 1
            int[] ends = pair(n, 0, 1, n - 1, 1);
            due(ring + "a sum of p", ring.of(ends, pair(n, 0, 1, n - 1, p - 1)).advise(0, 1), n - 1);
            // not moved, the product is p + 1, which is 1; moved by 1 it is 2
            due(ring + "a product of p + 1", ring.of(only(n, 0, 2), pair(n, 0, half, 1, 1)).advise(0, 1), 1);
            // not moved, the product is (p - 1) * (p - 1), which is 1; moved by n - 1 it is p - 1
            int[] last = pair(n, 0, p - 1, n - 1, 1);
            due(ring + "the greatest product", ring.of(only(n, 0, p - 1), last).advise(0, 1), n - 1);
        }
    }

    private static void adviseOfSeveralTheLeast() {
        sentence("Promise 21", "of several the least");
        for (Ring ring : RINGS) {
            int n = ring.n;
            int end = ring.p - 1;
            due(ring + "of 0", ring.zeros().advise(0, 3), 0);
            due(ring + "of p - 1", ring.greatest().advise(3, 0), 0);
            due(ring + "of p - 1 with itself", ring.greatest().advise(3, 3), 0);
            due(ring + "of p - 1 and 0", ring.of(same(n, end)).advise(0, 1), 0);
            int[] first = only(n, 0, 1);
            due(ring + "of 1 and 2", ring.of(first, pair(n, 1, end, 2, end)).advise(0, 1), 1);
            due(ring + "of 0 and n - 1", ring.of(first, pair(n, 0, end, n - 1, end)).advise(0, 1), 0);
            due(ring + "of n - 2 and n - 1", ring.of(first, pair(n, n - 2, end, n - 1, end)).advise(0, 1), n - 2);
        }
    }

    private static void adviseChangesNothing() {
        sentence("Promise 21", "(nothing is changed)");
        for (Ring ring : RINGS) {
            changesNothing(ring, "advise(0, 3)", x -> x.advise(0, 3));
            changesNothing(ring, "advise(3, 3)", x -> x.advise(3, 3));
        }
    }

    private static void adviseRows() {
        sentence("Promise 21", "if there is no such row");
        onlyRows0To3("advise(row, 1)", (x, row) -> x.advise(row, 1));
        onlyRows0To3("advise(1, row)", (x, row) -> x.advise(1, row));
        onlyRows0To3("advise(row, row)", (x, row) -> x.advise(row, row));
    }

    // ---- Promises 22 to 24

    private static void tonesMeanDigest() {
        tonesOfZerosAndGreatest();
        tonesOfItself();
        tonesRows();
        meanAsTheyAre();
        meanRows();
        digestStarts();
        digestOfZerosAndGreatest();
        digestOfEachPlace();
        digestAgain();
    }

    private static void tonesOfZerosAndGreatest() {
        sentence("Promise 22", "Returns whether the second one has the tones of the first one");
        for (Ring ring : RINGS) {
            int n = ring.n;
            int end = ring.p - 1;
            due(ring + "0 of 0", ring.zeros().tones(0, 3), true);
            due(ring + "p - 1 of p - 1", ring.greatest().tones(0, 3), false);
            ToneButterflies x = ring.of(same(n, end), only(n, 0, ring.p - n), only(n, 0, 1), same(n, 1));
            due(ring + "of p - 1", x.tones(0, 1), true);
            due(ring + "of p - 1, the other way", x.tones(1, 0), false);
            due(ring + "of 1 at the place 0", x.tones(2, 3), true);
            for (int place = 0; place < n; place++) {
                int number = x.at(1, place);
                x.set(1, place, number == end ? 0 : number + 1);
                due(ring + "of p - 1, but for the place " + place, x.tones(0, 1), false);
                x.set(1, place, number);
            }
            due(ring + "of p - 1 again", x.tones(0, 1), true);
            changesNothing(ring, "tones(0, 3)", y -> y.tones(0, 3));
            changesNothing(ring, "tones(3, 3)", y -> y.tones(3, 3));
        }
    }

    private static void tonesOfItself() {
        sentence("Promise 22", "the tones of the first one");
        // a row of the ring 16, 17 that has its own tones
        int[] own = {0, 15, 7, 15, 9, 15, 7, 14, 0, 3, 10, 2, 8, 2, 10, 2};
        ToneButterflies x = RINGS[4].of(own, own);
        due("tones(0, 0) of its own tones", x.tones(0, 0), true);
        due("tones(0, 1) of its own tones", x.tones(0, 1), true);
        x.turn(0, false);
        due("its own tones", numbers(x, 16, 0), text(own));
        for (Ring ring : RINGS) {
            due(ring + "tones(3, 3) of 0", ring.zeros().tones(3, 3), true);
            due(ring + "tones(3, 3) of p - 1", ring.greatest().tones(3, 3), false);
            due(ring + "tones(0, 0) of a last place", ring.of(only(ring.n, ring.n - 1, 1)).tones(0, 0), false);
        }
    }

    private static void tonesRows() {
        sentence("Promise 22", "if there is no such row");
        onlyRows0To3("tones(row, 1)", (x, row) -> x.tones(row, 1));
        onlyRows0To3("tones(1, row)", (x, row) -> x.tones(1, row));
        onlyRows0To3("tones(row, row)", (x, row) -> x.tones(row, row));
    }

    private static void meanAsTheyAre() {
        sentence("Promise 23", "Returns the mean of its numbers, which are added as they are for it");
        double[] parts = {0.25, 0.25, 0.125, 0.125, 0.0625, 0.0625};
        for (int at = 0; at < RINGS.length; at++) {
            Ring ring = RINGS[at];
            int n = ring.n;
            int end = ring.p - 1;
            due(ring + "of 0", ring.zeros().mean(3), 0.0);
            due(ring + "of p - 1", ring.greatest().mean(3), (double) end);
            due(ring + "of 1 at the place 0", ring.of(only(n, 0, 1)).mean(0), parts[at]);
            due(ring + "of 1 at the last place", ring.of(only(n, n - 1, 1)).mean(0), parts[at]);
            due(ring + "of a sum of p", ring.of(pair(n, 0, 1, n - 1, end)).mean(0), parts[at] * ring.p);
            due(ring + "of the row 3 alone", ring.with(3, only(n, n - 1, end)).mean(3), parts[at] * end);
            ToneButterflies x = ring.greatest();
            x.set(3, n - 1, end - 1);
            due(ring + "of p - 1 but for one", x.mean(3), end - parts[at]);
            changesNothing(ring, "mean(3)", y -> y.mean(3));
        }
    }

    private static void meanRows() {
        sentence("Promise 23", "if there is no such row");
        onlyRows0To3("mean(row)", (x, row) -> x.mean(row));
    }

    private static void digestStarts() {
        sentence("Promise 24", "A number d starts with 1777");
        for (Ring ring : RINGS) {
            long d = 1777L;
            for (int number : new int[] {ring.n, ring.p, ring.root, ring.rootInverse, ring.lengthInverse, ring.bits}) {
                d = d * 31L + number;
            }
            for (int row = 0; row < 4; row++) {
                // its numbers and the first two that about() tells; -1, 1 and 0, and its tones
                d = zeros(d, ring.n + 2);
                d = (d * 31L - 1) * 31L + 1;
                d = zeros(d, 1 + ring.n);
            }
            due(ring + "digest() of 0", ring.zeros().digest(), d);
        }
    }

    private static void digestOfZerosAndGreatest() {
        sentence("Promise 24", "d becomes d * 31 + x, which wraps around as a 64-bit integer");
        long[] zeros = {-8449471773024406095L, 4639671573390775823L, 1776071488694011925L, -8065737986078380662L,
            -2775286054128163767L, 8695199296971722859L};
        long[] greatest = {-329429599245190479L, 4363292383818851599L, 5371688802495157269L, -5497697078179397750L,
            374805708905918537L, 2466414760032417899L};
        for (int at = 0; at < RINGS.length; at++) {
            Ring ring = RINGS[at];
            due(ring + "digest() of 0", ring.zeros().digest(), zeros[at]);
            due(ring + "digest() of p - 1", ring.greatest().digest(), greatest[at]);
        }
    }

    private static void digestOfEachPlace() {
        sentence("Promise 24",
            "for each row its numbers, then what about() tells, in its order, then the numbers of its tones");
        for (Ring ring : RINGS) {
            int n = ring.n;
            for (int row = 0; row < 4; row++) {
                for (int place : new int[] {0, n - 1}) {
                    ToneButterflies x = ring.zeros();
                    x.set(row, place, ring.p - 1);
                    due(ring + "digest() of p - 1 in row " + row + " at " + place, x.digest(), told(ring, row, place));
                }
            }
        }
    }

    /** The checksum of rows of 0 with one p - 1, of which all that is told is known beforehand. */
    private static long told(Ring ring, int with, int place) {
        long d = 1777L;
        for (int number : new int[] {ring.n, ring.p, ring.root, ring.rootInverse, ring.lengthInverse, ring.bits}) {
            d = d * 31L + number;
        }
        int end = ring.p - 1;
        for (int row = 0; row < 4; row++) {
            int has = row == with ? 1 : 0;
            for (int at = 0; at < ring.n; at++) {
                d = d * 31L + (at == place ? end * has : 0);
            }
            int[] about = has == 1 ? new int[] {end, 1, place, ring.n, end} : new int[] {0, 0, -1, 1, 0};
            for (int number : about) {
                d = d * 31L + number;
            }
            for (int k = 0; k < ring.n; k++) {
                d = d * 31L + has * (ring.p - power(ring.root, place * k, ring.p));
            }
        }
        return d;
    }

    private static void digestAgain() {
        sentence("Promise 24", "Returns d");
        for (Ring ring : RINGS) {
            ToneButterflies x = ring.greatest();
            long first = x.digest();
            due(ring + "digest() again", x.digest(), first);
            due(ring + "digest() of another object", ring.greatest().digest(), first);
            changesNothing(ring, "digest()", y -> y.digest());
        }
    }

    private static long zeros(long before, int many) {
        long d = before;
        for (int at = 0; at < many; at++) {
            d = d * 31L;
        }
        return d;
    }
}
