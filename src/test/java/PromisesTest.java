/**
 * What each promise says, call by call, with answers that were worked out by hand from the document.
 * No object is used for more than the 512 calls for which the document promises anything.
 */
public final class PromisesTest {
    private static final Class<?> PLACE = IndexOutOfBoundsException.class;
    private static final Class<?> VALUE = IllegalArgumentException.class;
    private static final int[] FAR = {Integer.MIN_VALUE, -17, -1};

    private static int wrong = 0;

    private interface Call {
        Object answer();
    }

    public static void main(String[] args) {
        newObject();
        ring();
        order();
        inverse();
        root();
        set();
        copy();
        turn();
        mirror();
        stage();
        fold();
        join();
        move();
        times();
        at();
        point();
        about();
        count();
        would();
        comes();
        advise();
        tones();
        mean();
        digest();
        noSuchRow();
        System.out.println(wrong == 0 ? "all promises hold" : wrong + " answers are not as due");
        if (wrong != 0) {
            System.exit(1);
        }
    }

    // ---- helpers

    private static void due(String call, Object got, Object want) {
        if (!want.equals(got)) {
            wrong++;
            System.out.println(call + " answered " + got + ", due is " + want);
        }
    }

    /** The call throws this very class, and changes nothing. */
    private static void refused(String call, ToneButterflies x, Class<?> want, Call made) {
        long before = x.digest();
        Object got;
        try {
            got = made.answer();
        } catch (RuntimeException e) {
            got = e.getClass();
        }
        due(call, got, want);
        due(call + ", digest() then", x.digest(), before);
    }

    private static String state(ToneButterflies x) {
        StringBuilder told = new StringBuilder();
        for (int what = 0; what < 6; what++) {
            told.append(x.count(what)).append(' ');
        }
        for (int row = 0; row < 4; row++) {
            told.append("| ").append(row(x, row)).append(' ');
        }
        return told.toString();
    }

    private static String row(ToneButterflies x, int row) {
        int length = x.count(0);
        StringBuilder told = new StringBuilder();
        for (int place = 0; place < length; place++) {
            told.append(place == 0 ? "" : " ").append(x.at(row, place));
        }
        return told.toString();
    }

    private static void put(ToneButterflies x, int row, int... numbers) {
        int length = x.count(0);
        for (int place = 0; place < length; place++) {
            x.set(row, place, place < numbers.length ? numbers[place] : 0);
        }
    }

    private static ToneButterflies of(int n, int p) {
        ToneButterflies x = new ToneButterflies();
        x.ring(n, p);
        return x;
    }

    // ---- the promises

    private static void newObject() {
        ToneButterflies x = new ToneButterflies();
        String zeros = "0 0 0 0 0 0 0 0";
        due("1: state", state(x), "8 17 2 9 15 3 | " + zeros + " | " + zeros + " | " + zeros + " | " + zeros + " ");
    }

    private static void ring() {
        ToneButterflies x = new ToneButterflies();
        put(x, 0, 1, 2, 3, 4, 5, 6, 7, 8);
        put(x, 3, 8, 7, 6, 5, 4, 3, 2, 1);
        int[][] none = {{2, 5}, {32, 97}, {0, 17}, {-4, 5}, {5, 11}, {12, 13}, {1, 17}, {8, 15}, {8, 9}, {4, 25},
            {4, 9}, {8, 289}, {8, 361}, {4, 3}, {4, 2}, {4, 1}, {4, 0}, {4, -3}, {8, -7}, {16, -31}, {4, 501}, {4, 509},
            {8, 521}, {4, 7}, {8, 13}, {8, 5}, {16, 41}, {4, 499}, {16, 5}, {Integer.MIN_VALUE, Integer.MIN_VALUE},
            {4, Integer.MAX_VALUE}, {Integer.MAX_VALUE, 17}, {4, Integer.MIN_VALUE}, {4, 493}, {8, 497}};
        for (int[] pair : none) {
            refused("2: ring(" + pair[0] + ", " + pair[1] + ")", x, VALUE, () -> x.ring(pair[0], pair[1]));
        }
        due("2: ring(4, 5)", x.ring(4, 5), 2);
        due("2: state", state(x), "4 5 2 3 4 2 | 0 0 0 0 | 0 0 0 0 | 0 0 0 0 | 0 0 0 0 ");
        put(x, 2, 1, 2, 3, 4);
        due("2: ring(4, 5) again", x.ring(4, 5), 2);
        due("2: row", row(x, 2), "0 0 0 0");
        due("2: ring(16, 17)", x.ring(16, 17), 3);
        for (int row = 0; row < 4; row++) {
            x.set(row, 15, 16);
            x.set(row, 4, 1);
        }
        x.ring(4, 13);
        due("2: ring(16, 97)", x.ring(16, 97), 8);
        for (int row = 0; row < 4; row++) {
            due("2: row", row(x, row), "0 0 0 0 0 0 0 0 0 0 0 0 0 0 0 0");
        }
        due("2: ring(4, 13)", x.ring(4, 13), 5);
        due("2: ring(8, 41)", x.ring(8, 41), 3);
        due("2: ring(4, 257)", x.ring(4, 257), 16);
        due("2: ring(8, 17)", x.ring(8, 17), 2);
        due("2: ring(4, 17)", x.ring(4, 17), 4);
        due("2: ring(4, 461)", x.ring(4, 461), 48);
    }

    private static void order() {
        ToneButterflies x = new ToneButterflies();
        int[] orders = {1, 8, 16, 4, 16, 16, 16, 8, 8, 16, 16, 16, 4, 16, 8, 2};
        for (int number = 1; number < 17; number++) {
            due("3: order(" + number + ")", x.order(number), orders[number - 1]);
        }
        for (int number : new int[] {0, -1, 17, 18, Integer.MIN_VALUE, Integer.MAX_VALUE}) {
            refused("3: order(" + number + ")", x, VALUE, () -> x.order(number));
        }
        x.ring(16, 97);
        due("3: order(17) by 97", x.order(17), 96);
        due("3: order(5) by 97", x.order(5), 96);
        due("3: order(35) by 97", x.order(35), 3);
        refused("3: order(97) by 97", x, VALUE, () -> x.order(97));
    }

    private static void inverse() {
        ToneButterflies x = new ToneButterflies();
        int[] inverses = {1, 9, 6, 13, 7, 3, 5, 15, 2, 12, 14, 10, 4, 11, 8, 16};
        for (int number = 1; number < 17; number++) {
            due("4: inverse(" + number + ")", x.inverse(number), inverses[number - 1]);
        }
        for (int number : new int[] {0, -1, 17, 18, Integer.MIN_VALUE, Integer.MAX_VALUE}) {
            refused("4: inverse(" + number + ")", x, VALUE, () -> x.inverse(number));
        }
        x.ring(4, 257);
        due("4: inverse(256) by 257", x.inverse(256), 256);
        due("4: inverse(2) by 257", x.inverse(2), 129);
        refused("4: inverse(257) by 257", x, VALUE, () -> x.inverse(257));
    }

    private static void root() {
        ToneButterflies x = new ToneButterflies();
        int[] powers = {1, 2, 4, 8, 16, 15, 13, 9};
        ToneButterflies y = x;
        for (int power = 0; power < 10000; power++) {
            y = power % 500 == 0 ? new ToneButterflies() : y;
            due("5: root(" + power + ")", y.root(power), powers[power % 8]);
        }
        for (int power : new int[] {-1, 10000, 10001, Integer.MIN_VALUE, Integer.MAX_VALUE}) {
            refused("5: root(" + power + ")", x, VALUE, () -> x.root(power));
        }
        x.ring(4, 5);
        due("5: root(9999) by 5", x.root(9999), 3);
    }

    private static void set() {
        ToneButterflies x = new ToneButterflies();
        due("6: set(0, 0, 16)", x.set(0, 0, 16), 0);
        due("6: set(0, 0, 3)", x.set(0, 0, 3), 16);
        due("6: set(0, 0, 0)", x.set(0, 0, 0), 3);
        due("6: set(3, 7, 5)", x.set(3, 7, 5), 0);
        due("6: set(2, 7, 6)", x.set(2, 7, 6), 0);
        due("6: rows", row(x, 0) + row(x, 1) + row(x, 2) + row(x, 3),
            "0 0 0 0 0 0 0 0" + "0 0 0 0 0 0 0 0" + "0 0 0 0 0 0 0 6" + "0 0 0 0 0 0 0 5");
        for (int far : FAR) {
            refused("6: place " + far, x, PLACE, () -> x.set(0, far, 1));
            refused("6: number " + far, x, VALUE, () -> x.set(0, 0, far));
        }
        refused("6: place 8", x, PLACE, () -> x.set(0, 8, 1));
        refused("6: place 8, number 17", x, PLACE, () -> x.set(3, 8, 17));
        refused("6: row 4, number 17", x, PLACE, () -> x.set(4, 0, 17));
        refused("6: number 17", x, VALUE, () -> x.set(3, 7, 17));
        x.ring(4, 5);
        refused("6: place 4 of 4", x, PLACE, () -> x.set(0, 4, 1));
        refused("6: number 5 by 5", x, VALUE, () -> x.set(0, 3, 5));
        x.ring(16, 449);
        due("6: set(1, 15, 448)", x.set(1, 15, 448), 0);
        due("6: at(1, 15)", x.at(1, 15), 448);
    }

    private static void copy() {
        ToneButterflies x = new ToneButterflies();
        put(x, 0, 1, 0, 3, 4, 0, 0, 0, 8);
        put(x, 1, 1, 2, 3);
        due("7: copy(0, 0)", x.copy(0, 0), 0);
        due("7: copy(0, 1)", x.copy(0, 1), 3);
        due("7: row 1", row(x, 1), "1 0 3 4 0 0 0 8");
        due("7: row 0", row(x, 0), "1 0 3 4 0 0 0 8");
        due("7: copy(0, 1) again", x.copy(0, 1), 0);
        due("7: copy(2, 1)", x.copy(2, 1), 4);
        x.set(0, 0, 9);
        due("7: row 1 stays", row(x, 1), "0 0 0 0 0 0 0 0");
    }

    private static void turn() {
        ToneButterflies x = new ToneButterflies();
        put(x, 0, 1, 2, 3, 4);
        put(x, 1, 0, 1);
        due("8: turn(0, false)", x.turn(0, false), 10);
        due("8: tones", row(x, 0), "10 15 7 13 15 11 6 16");
        due("8: turn(0, true)", x.turn(0, true), 1);
        due("8: turned back", row(x, 0), "1 2 3 4 0 0 0 0");
        due("8: turn(1, false)", x.turn(1, false), 1);
        due("8: tones of the place 1", row(x, 1), "1 2 4 8 16 15 13 9");
        put(x, 2, 0, 8);
        due("8: turn(2, true)", x.turn(2, true), 1);
        due("8: turned back of the place 1", row(x, 2), "1 9 13 15 16 8 4 2");
        x.ring(4, 5);
        put(x, 0, 1, 1, 1, 1);
        due("8: turn(0, false) by 5", x.turn(0, false), 4);
        due("8: tones by 5", row(x, 0), "4 0 0 0");
    }

    private static void mirror() {
        ToneButterflies x = new ToneButterflies();
        put(x, 0, 0, 1, 2, 3, 4, 5, 6, 7);
        due("9: mirror(0)", x.mirror(0), 4);
        due("9: row", row(x, 0), "0 4 2 6 1 5 3 7");
        put(x, 1, 5, 5, 5, 5, 5, 1, 2, 3);
        due("9: mirror(1)", x.mirror(1), 2);
        due("9: row 1", row(x, 1), "5 5 5 2 5 1 5 3");
        due("9: mirror(2)", x.mirror(2), 0);
        x.ring(4, 5);
        put(x, 0, 1, 2, 3, 4);
        due("9: mirror(0) of 4", x.mirror(0), 2);
        due("9: row of 4", row(x, 0), "1 3 2 4");
        x.ring(16, 17);
        put(x, 3, 0, 1, 2, 3, 4, 5, 6, 7, 8, 9, 10, 11, 12, 13, 14, 15);
        due("9: mirror(3) of 16", x.mirror(3), 12);
        due("9: row of 16", row(x, 3), "0 8 4 12 2 10 6 14 1 9 5 13 3 11 7 15");
    }

    private static void stage() {
        ToneButterflies x = new ToneButterflies();
        put(x, 0, 1, 2, 3, 4, 5, 6, 7, 8);
        due("10: stage(0, 0)", x.stage(0, 0), 3);
        due("10: row", row(x, 0), "3 16 7 16 11 16 15 16");
        put(x, 0, 1, 2, 3, 4, 5, 6, 7, 8);
        due("10: stage(0, 1)", x.stage(0, 1), 4);
        due("10: row", row(x, 0), "4 1 15 3 12 4 15 8");
        put(x, 0, 1, 2, 3, 4, 5, 6, 7, 8);
        due("10: stage(0, 2)", x.stage(0, 2), 6);
        due("10: row", row(x, 0), "6 14 14 0 13 7 9 8");
        put(x, 1, 3, 1, 4, 1, 5, 9, 2, 6);
        x.copy(1, 2);
        x.mirror(1);
        x.stage(1, 0);
        x.stage(1, 1);
        x.stage(1, 2);
        x.turn(2, false);
        due("10: tones by butterflies", row(x, 1), row(x, 2));
        for (int far : FAR) {
            refused("10: stage " + far, x, PLACE, () -> x.stage(0, far));
        }
        refused("10: stage 3 of 8", x, PLACE, () -> x.stage(0, 3));
        refused("10: stage 32 of 8", x, PLACE, () -> x.stage(0, 32));
        x.ring(4, 5);
        refused("10: stage 2 of 4", x, PLACE, () -> x.stage(0, 2));
        x.ring(16, 17);
        refused("10: stage 4 of 16", x, PLACE, () -> x.stage(0, 4));
        put(x, 0, 1, 0, 0, 0, 0, 0, 0, 0, 0, 1);
        due("10: stage(0, 3)", x.stage(0, 3), 1);
        due("10: row of 16", row(x, 0), "1 3 0 0 0 0 0 0 1 14 0 0 0 0 0 0");
    }

    private static void fold() {
        ToneButterflies x = new ToneButterflies();
        put(x, 0, 1, 2);
        put(x, 1, 3, 4, 0, 0, 0, 0, 0, 5);
        due("11: fold(0, 1)", x.fold(0, 1), 13);
        due("11: row 0", row(x, 0), "13 10 8 0 0 0 0 5");
        due("11: row 1 stays", row(x, 1), "3 4 0 0 0 0 0 5");
        due("11: fold(1, 1)", x.fold(1, 1), 15);
        due("11: row 1", row(x, 1), "15 7 16 0 0 0 8 13");
        due("11: fold(1, 2)", x.fold(1, 2), 0);
        due("11: row 1 of 0", row(x, 1), "0 0 0 0 0 0 0 0");
    }

    private static void join() {
        ToneButterflies x = new ToneButterflies();
        int[] first = {1, 16, 5, 0, 9, 3, 0, 7};
        put(x, 1, 16, 16, 2, 3, 9, 14, 0, 0);
        put(x, 0, first);
        due("12: by sums", x.join(0, 1, 0), 5);
        due("12: row", row(x, 0), "0 15 7 3 1 0 0 7");
        put(x, 0, first);
        due("12: by differences", x.join(0, 1, 1), 5);
        due("12: row", row(x, 0), "2 0 3 14 0 6 0 7");
        put(x, 0, first);
        due("12: by products", x.join(0, 1, 2), 5);
        due("12: row", row(x, 0), "16 1 10 0 13 8 0 0");
        due("12: the second one stays", row(x, 1), "16 16 2 3 9 14 0 0");
        due("12: with itself by products", x.join(1, 1, 2), 6);
        due("12: row 1", row(x, 1), "1 1 4 9 13 9 0 0");
        due("12: with itself by sums", x.join(1, 1, 0), 6);
        due("12: row 1", row(x, 1), "2 2 8 1 9 1 0 0");
        due("12: with itself by differences", x.join(1, 1, 1), 0);
        for (int far : new int[] {-1, 3, Integer.MIN_VALUE, Integer.MAX_VALUE}) {
            refused("12: what " + far, x, PLACE, () -> x.join(0, 1, far));
        }
    }

    private static void move() {
        ToneButterflies x = new ToneButterflies();
        put(x, 0, 1, 2, 3, 4, 5, 6, 7, 8);
        due("13: move(0, 0)", x.move(0, 0), 1);
        due("13: row", row(x, 0), "1 2 3 4 5 6 7 8");
        due("13: move(0, 3)", x.move(0, 3), 6);
        due("13: row", row(x, 0), "6 7 8 1 2 3 4 5");
        due("13: move(0, 7)", x.move(0, 7), 7);
        due("13: row", row(x, 0), "7 8 1 2 3 4 5 6");
        for (int far : FAR) {
            refused("13: by " + far, x, VALUE, () -> x.move(0, far));
        }
        refused("13: by 8", x, VALUE, () -> x.move(0, 8));
        refused("13: row 4 by 8", x, PLACE, () -> x.move(4, 8));
        x.ring(4, 5);
        refused("13: by 4 of 4", x, VALUE, () -> x.move(0, 4));
    }

    private static void times() {
        ToneButterflies x = new ToneButterflies();
        put(x, 0, 1, 2, 0, 4, 5, 6, 7, 16);
        due("14: times(0, 16)", x.times(0, 16), 7);
        due("14: row", row(x, 0), "16 15 0 13 12 11 10 1");
        due("14: times(0, 2)", x.times(0, 2), 7);
        due("14: row", row(x, 0), "15 13 0 9 7 5 3 2");
        due("14: times(0, 0)", x.times(0, 0), 0);
        due("14: row", row(x, 0), "0 0 0 0 0 0 0 0");
        for (int far : FAR) {
            refused("14: by " + far, x, VALUE, () -> x.times(0, far));
        }
        refused("14: by 17", x, VALUE, () -> x.times(0, 17));
        refused("14: row 4 by 17", x, PLACE, () -> x.times(4, 17));
    }

    private static void at() {
        ToneButterflies x = new ToneButterflies();
        put(x, 3, 1, 2, 3, 4, 5, 6, 7, 8);
        for (int place = 0; place < 8; place++) {
            due("15: at(3, " + place + ")", x.at(3, place), place + 1);
            due("15: at(2, " + place + ")", x.at(2, place), 0);
        }
        for (int far : FAR) {
            refused("15: place " + far, x, PLACE, () -> x.at(0, far));
        }
        refused("15: place 8", x, PLACE, () -> x.at(0, 8));
        refused("15: place greatest", x, PLACE, () -> x.at(0, Integer.MAX_VALUE));
        x.ring(4, 5);
        refused("15: place 4 of 4", x, PLACE, () -> x.at(0, 4));
    }

    private static void point() {
        ToneButterflies x = new ToneButterflies();
        put(x, 0, 1, 2, 3, 4);
        due("16: point(0, 0)", x.point(0, 0), 1);
        due("16: point(0, 1)", x.point(0, 1), 10);
        due("16: point(0, 2)", x.point(0, 2), 15);
        due("16: point(0, 16)", x.point(0, 16), 15);
        put(x, 1, 0, 0, 0, 0, 0, 0, 0, 5);
        due("16: point(1, 3)", x.point(1, 3), 4);
        for (int far : FAR) {
            refused("16: x " + far, x, VALUE, () -> x.point(0, far));
        }
        refused("16: x 17", x, VALUE, () -> x.point(0, 17));
        refused("16: row 4, x 17", x, PLACE, () -> x.point(4, 17));
    }

    private static void about() {
        ToneButterflies x = new ToneButterflies();
        aboutDue(x, 0, 0, 0, -1, 1, 0);
        put(x, 0, 16, 1, 16, 1, 16, 1, 16, 1);
        aboutDue(x, 0, 0, 8, 7, 2, 16);
        put(x, 1, 0, 3, 0, 0, 0, 3);
        aboutDue(x, 1, 6, 2, 5, 4, 3);
        put(x, 2, 7, 7, 7, 7, 7, 7, 7, 7);
        aboutDue(x, 2, 5, 8, 7, 1, 7);
        put(x, 3, 15, 9, 2);
        aboutDue(x, 3, 9, 3, 2, 8, 15);
        put(x, 3, 4);
        aboutDue(x, 3, 4, 1, 0, 8, 4);
        for (int far : FAR) {
            refused("17: what " + far, x, PLACE, () -> x.about(0, far));
        }
        refused("17: what 5", x, PLACE, () -> x.about(0, 5));
        x.ring(16, 17);
        put(x, 1, 1, 2, 3, 4, 5, 6, 7, 8, 1, 2, 3, 4, 5, 6, 7, 8);
        aboutDue(x, 1, 4, 16, 15, 8, 8);
    }

    private static void aboutDue(ToneButterflies x, int row, int... told) {
        String numbers = row(x, row);
        for (int what = 0; what < 5; what++) {
            due("17: about(" + row + ", " + what + ") of " + numbers, x.about(row, what), told[what]);
        }
    }

    private static void count() {
        countDue(new ToneButterflies(), 8, 17, 2, 9, 15, 3);
        countDue(of(4, 5), 4, 5, 2, 3, 4, 2);
        countDue(of(16, 97), 16, 97, 8, 85, 91, 4);
        countDue(of(4, 13), 4, 13, 5, 8, 10, 2);
        countDue(of(8, 41), 8, 41, 3, 14, 36, 3);
        ToneButterflies x = new ToneButterflies();
        for (int far : FAR) {
            refused("18: what " + far, x, PLACE, () -> x.count(far));
        }
        refused("18: what 6", x, PLACE, () -> x.count(6));
    }

    private static void countDue(ToneButterflies x, int... told) {
        for (int what = 0; what < 6; what++) {
            due("18: count(" + what + ") by " + told[1], x.count(what), told[what]);
        }
    }

    private static void would() {
        ToneButterflies x = new ToneButterflies();
        put(x, 0, 1, 2);
        put(x, 1, 3, 4, 0, 0, 0, 0, 0, 5);
        int[] folded = {13, 10, 8, 0, 0, 0, 0, 5};
        int[] squared = {15, 7, 16, 0, 0, 0, 8, 13};
        String before = state(x);
        for (int place = 0; place < 8; place++) {
            due("19: would(0, 1, " + place + ")", x.would(0, 1, place), folded[place]);
            due("19: would(1, 0, " + place + ")", x.would(1, 0, place), folded[place]);
            due("19: would(1, 1, " + place + ")", x.would(1, 1, place), squared[place]);
        }
        due("19: state", state(x), before);
        for (int far : FAR) {
            refused("19: place " + far, x, PLACE, () -> x.would(0, 1, far));
        }
        refused("19: place 8", x, PLACE, () -> x.would(0, 1, 8));
        x.ring(4, 5);
        refused("19: place 4 of 4", x, PLACE, () -> x.would(0, 1, 4));
    }

    private static void comes() {
        ToneButterflies x = new ToneButterflies();
        put(x, 0, 1, 2, 3);
        put(x, 1, 2, 3, 0, 0, 0, 0, 0, 1);
        put(x, 2, 5, 6, 5, 6, 5, 6, 5, 6);
        put(x, 3, 6, 5, 6, 5, 6, 5, 6, 5);
        String before = state(x);
        due("20: comes(0, 1)", x.comes(0, 1), 7);
        due("20: comes(1, 0)", x.comes(1, 0), 1);
        due("20: comes(0, 0)", x.comes(0, 0), 0);
        due("20: comes(2, 3)", x.comes(2, 3), 1);
        due("20: comes(2, 2)", x.comes(2, 2), 0);
        due("20: comes(0, 2)", x.comes(0, 2), -1);
        due("20: state", state(x), before);
        x.set(1, 4, 1);
        due("20: comes(0, 1) never", x.comes(0, 1), -1);
    }

    private static void advise() {
        ToneButterflies x = new ToneButterflies();
        due("21: advise(0, 1) of 0", x.advise(0, 1), 0);
        put(x, 0, 1);
        put(x, 1, 3, 9, 2, 9);
        put(x, 2, 4);
        String before = state(x);
        due("21: advise(0, 1)", x.advise(0, 1), 1);
        due("21: advise(1, 0)", x.advise(1, 0), 5);
        // the sums are 12, 36, 8, 36 as they are, but 12, 2, 8, 2 by 17
        due("21: advise(2, 1)", x.advise(2, 1), 0);
        due("21: state", state(x), before);
        put(x, 3, 5, 0, 0, 0, 0, 0, 0, 3);
        // with itself: 34 is 0 by 17, moved by 1 or by 7 it is 15
        due("21: advise(3, 3)", x.advise(3, 3), 1);
    }

    private static void tones() {
        ToneButterflies x = new ToneButterflies();
        due("22: tones(0, 0) of 0", x.tones(0, 0), true);
        put(x, 0, 1, 2, 3, 4);
        put(x, 1, 10, 15, 7, 13, 15, 11, 6, 16);
        String before = state(x);
        due("22: tones(0, 1)", x.tones(0, 1), true);
        due("22: tones(1, 0)", x.tones(1, 0), false);
        due("22: tones(0, 0)", x.tones(0, 0), false);
        due("22: state", state(x), before);
        for (int place = 0; place < 8; place++) {
            int number = x.at(1, place);
            x.set(1, place, number - 1);
            due("22: tones(0, 1) but for " + place, x.tones(0, 1), false);
            x.set(1, place, number);
        }
        x.ring(4, 5);
        due("22: tones(0, 1) by 5", x.tones(0, 1), true);
    }

    private static void mean() {
        ToneButterflies x = new ToneButterflies();
        due("23: mean(0) of 0", x.mean(0), 0.0);
        put(x, 0, 16, 16, 16, 16, 16, 16, 16, 15);
        due("23: mean(0)", x.mean(0), 15.875);
        put(x, 1, 0, 0, 0, 0, 0, 1);
        due("23: mean(1)", x.mean(1), 0.125);
        x.ring(16, 449);
        put(x, 3, 448, 448, 448, 448, 448, 448, 448, 448, 448, 448, 448, 448, 448, 448, 448, 447);
        due("23: mean(3)", x.mean(3), 447.9375);
        x.ring(4, 5);
        put(x, 2, 4, 4, 4, 3);
        due("23: mean(2)", x.mean(2), 3.75);
    }

    private static void digest() {
        digestDue(new ToneButterflies());
        ToneButterflies x = new ToneButterflies();
        put(x, 0, 16, 1, 2, 3);
        put(x, 2, 5, 5, 5, 5, 5, 5, 5, 5);
        digestDue(x);
        ToneButterflies y = of(4, 5);
        put(y, 3, 4, 3, 2, 1);
        digestDue(y);
        // the least one, written out: 8 17 2 9 15 3, then for each row eight 0, 0 0 -1 1 0, eight 0
        long d = 1777L;
        for (int number : new int[] {8, 17, 2, 9, 15, 3}) {
            d = d * 31L + number;
        }
        for (int row = 0; row < 4; row++) {
            for (int number : new int[] {0, 0, 0, 0, 0, 0, 0, 0, 0, 0, -1, 1, 0, 0, 0, 0, 0, 0, 0, 0, 0}) {
                d = d * 31L + number;
            }
        }
        due("24: digest() of a new object", new ToneButterflies().digest(), d);
    }

    private static void digestDue(ToneButterflies x) {
        String before = state(x);
        int length = x.count(0);
        long d = 1777L;
        for (int what = 0; what < 6; what++) {
            d = d * 31L + x.count(what);
        }
        for (int row = 0; row < 4; row++) {
            for (int place = 0; place < length; place++) {
                d = d * 31L + x.at(row, place);
            }
            for (int what = 0; what < 5; what++) {
                d = d * 31L + x.about(row, what);
            }
            for (int place = 0; place < length; place++) {
                d = d * 31L + x.point(row, x.root(place));
            }
        }
        due("24: digest()", x.digest(), d);
        due("24: digest() again", x.digest(), d);
        due("24: state", state(x), before);
    }

    /** Every call that takes a row refuses each number that is none, at each place where it takes one. */
    private static void noSuchRow() {
        for (int far : new int[] {-1, 4, 5, Integer.MIN_VALUE, Integer.MAX_VALUE, 1 << 28}) {
            ToneButterflies x = new ToneButterflies();
            put(x, 0, 1, 2, 3, 4);
            put(x, 3, 5, 6, 7, 8, 9);
            refused("6: row " + far, x, PLACE, () -> x.set(far, 0, 1));
            refused("7: from " + far, x, PLACE, () -> x.copy(far, 0));
            refused("7: to " + far, x, PLACE, () -> x.copy(0, far));
            refused("8: row " + far, x, PLACE, () -> x.turn(far, false));
            refused("8: row " + far + " back", x, PLACE, () -> x.turn(far, true));
            refused("9: row " + far, x, PLACE, () -> x.mirror(far));
            refused("10: row " + far, x, PLACE, () -> x.stage(far, 0));
            refused("11: a " + far, x, PLACE, () -> x.fold(far, 0));
            refused("11: b " + far, x, PLACE, () -> x.fold(0, far));
            refused("12: a " + far, x, PLACE, () -> x.join(far, 0, 0));
            refused("12: b " + far, x, PLACE, () -> x.join(0, far, 0));
            refused("13: row " + far, x, PLACE, () -> x.move(far, 0));
            refused("14: row " + far, x, PLACE, () -> x.times(far, 1));
            refused("15: row " + far, x, PLACE, () -> x.at(far, 0));
            refused("16: row " + far, x, PLACE, () -> x.point(far, 0));
            refused("17: row " + far, x, PLACE, () -> x.about(far, 0));
            refused("19: a " + far, x, PLACE, () -> x.would(far, 0, 0));
            refused("19: b " + far, x, PLACE, () -> x.would(0, far, 0));
            refused("20: a " + far, x, PLACE, () -> x.comes(far, 0));
            refused("20: b " + far, x, PLACE, () -> x.comes(0, far));
            refused("21: a " + far, x, PLACE, () -> x.advise(far, 0));
            refused("21: b " + far, x, PLACE, () -> x.advise(0, far));
            refused("22: a " + far, x, PLACE, () -> x.tones(far, 0));
            refused("22: b " + far, x, PLACE, () -> x.tones(0, far));
            refused("23: row " + far, x, PLACE, () -> x.mean(far));
        }
    }
}
