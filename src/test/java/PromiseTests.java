/** For each promise of the document: ordinary inputs, its edges, and wrong inputs. */
public final class PromiseTests {
    private static final int U = -101, O = -102, ST = -103, FU = -104;
    private static final int NULL = -11, INDEX = -12, SIZE = -13, CAST = -14, GREAT = -15;
    private static final int MIN = Integer.MIN_VALUE, MAX = Integer.MAX_VALUE;
    private static int wrong = 0;

    private static void due(String what, long got, long want) {
        if (got != want) {
            wrong++;
            System.out.println(what + " answered " + got + ", due is " + want);
        }
    }

    public static void main(String[] args) {
        newObject();
        sheet();
        put();
        copy();
        lose();
        square();
        orderAtDrop();
        sum();
        kinds();
        odd();
        turn();
        form();
        same();
        unlike();
        make();
        product();
        swap();
        turned();
        scale();
        plus();
        seekRefusals();
        seekSmall();
        seekWide();
        seekHeld();
        takeAndPlace();
        causesAndCounts();
        digest();
        full();
        System.out.println(wrong == 0 ? "all answers are as due" : wrong + " answers are not as due");
        if (wrong != 0) {
            System.exit(1);
        }
    }

    // A square of the numbers told, by way of sheet 3, which is lost behind it.
    private static int lay(OneSumSquares x, int n, int... numbers) {
        x.sheet(3, 2, n * n);
        for (int i = 0; i < n * n; i++) {
            x.put(3, 2, i, numbers[i]);
        }
        int q = x.square(3, 0, n);
        x.lose(3);
        return q;
    }

    private static void dueNumbers(String what, OneSumSquares x, int q, int n, int... want) {
        due(what + " order", x.order(q), n);
        for (int i = 0; i < n * n; i++) {
            due(what + " at " + i / n + " " + i % n, x.at(q, i / n, i % n), want[i]);
        }
    }

    private static void newObject() {
        OneSumSquares x = new OneSumSquares();
        for (int what = 0; what < 3; what++) {
            due("1 count " + what, x.count(what), 0);
        }
        due("1 found", x.found(), -1);
        due("1 forms", x.forms(), ST);
        due("1 cause", x.cause(), 0);
        for (int s = 0; s < 4; s++) {
            due("1 lose", x.lose(s), NULL);
        }
        for (int q = 0; q < 24; q++) {
            due("1 order", x.order(q), U);
        }
        long h = 83;
        for (int i = 0; i < 5; i++) {
            h = 31 * h - 1;
        }
        due("1 digest", x.digest(), h);
    }

    private static void sheet() {
        OneSumSquares x = new OneSumSquares();
        due("2 sheet 0", x.sheet(0, 0, 0), 0);
        due("2 sheet 3", x.sheet(3, 2, 150), 150);
        due("2 s below", x.sheet(-1, 9, -1), U);
        due("2 s above", x.sheet(4, 0, 1), U);
        due("2 lane below", x.sheet(0, -1, 1), O);
        due("2 lane above", x.sheet(0, 3, -1), O);
        due("2 n above", x.sheet(0, 0, 151), O);
        due("2 n greatest", x.sheet(0, 0, MAX), O);
        due("2 n below", x.sheet(0, 0, -1), SIZE);
        due("2 n least", x.sheet(1, 0, MIN), SIZE);
        due("2 refused changes nothing", x.count(1), 2);
        x.put(3, 2, 149, 7);
        due("2 anew", x.sheet(3, 1, 150), 150);
        x.put(3, 1, 0, 1);
        due("2 anew is 0", x.square(3, 149, 1), 0);
        due("2 anew is 0: number", x.at(0, 0, 0), 0);
        due("2 lose empty", x.lose(0), 0);
        due("2 lost", x.lose(0), NULL);
    }

    private static void put() {
        OneSumSquares x = new OneSumSquares();
        x.sheet(0, 0, 3);
        x.sheet(1, 1, 3);
        x.sheet(2, 2, 3);
        due("3 byte", x.put(0, 0, 0, 200), 1);
        due("3 short", x.put(1, 1, 1, 40000), 1);
        due("3 int", x.put(2, 2, 2, 99999), 1);
        x.put(0, 0, 2, -129);
        x.put(1, 1, 2, MIN);
        due("3 byte cast", x.at(x.square(0, 0, 1), 0, 0), -56);
        due("3 byte cast again", x.at(x.square(0, 2, 1), 0, 0), 127);
        due("3 short cast", x.at(x.square(1, 1, 1), 0, 0), 40000 - 65536);
        due("3 short cast again", x.at(x.square(1, 2, 1), 0, 0), 0);
        due("3 int kept", x.at(x.square(2, 2, 1), 0, 0), 99999);
        due("3 s", x.put(4, 9, 9, 9), U);
        due("3 s below", x.put(-1, 0, 0, 9), U);
        due("3 lane", x.put(3, 3, 0, 0), O);
        due("3 lane below", x.put(3, -1, 0, 0), O);
        due("3 missing", x.put(3, 1, 9, 9), NULL);
        due("3 cast", x.put(0, 1, 9, 9), CAST);
        due("3 index", x.put(0, 0, 3, 9), INDEX);
        due("3 index below", x.put(0, 0, -1, 9), INDEX);
        due("3 index greatest", x.put(0, 0, MAX, 9), INDEX);
        due("3 index least", x.put(0, 0, MIN, 9), INDEX);
    }

    private static void copy() {
        OneSumSquares x = new OneSumSquares();
        x.sheet(0, 0, 5);
        x.sheet(1, 0, 4);
        x.sheet(2, 1, 5);
        for (int i = 0; i < 5; i++) {
            x.put(0, 0, i, i + 1);
        }
        due("4 onto itself, up", x.copy(0, 0, 0, 1, 4), 1);
        dueSheet("4 up", x, 0, 1, 1, 2, 3, 4);
        due("4 onto itself, down", x.copy(0, 1, 0, 0, 4), 1);
        dueSheet("4 down", x, 0, 1, 2, 3, 4, 4);
        due("4 to another", x.copy(0, 2, 1, 1, 3), 1);
        dueSheet("4 another", x, 1, 0, 3, 4, 4);
        due("4 none at the ends", x.copy(0, 5, 1, 4, 0), 1);
        due("4 s", x.copy(4, 0, -1, 0, 0), U);
        due("4 t", x.copy(3, 0, 4, 0, 0), U);
        due("4 missing s", x.copy(3, 0, 0, 0, 0), NULL);
        due("4 missing t", x.copy(2, -1, 3, 0, -1), NULL);
        due("4 cast", x.copy(0, 9, 2, 9, 9), CAST);
        due("4 cast of none", x.copy(0, 0, 2, 0, 0), CAST);
        due("4 n below", x.copy(0, 1, 1, 1, -1), INDEX);
        due("4 i below", x.copy(0, -1, 1, 0, 1), INDEX);
        due("4 j below", x.copy(0, 0, 1, -1, 1), INDEX);
        due("4 beyond s", x.copy(0, 2, 1, 0, 4), INDEX);
        due("4 beyond t", x.copy(0, 0, 1, 0, 5), INDEX);
        due("4 beyond the end with none", x.copy(0, 6, 1, 0, 0), INDEX);
        due("4 beyond the end of t with none", x.copy(0, 0, 1, 5, 0), INDEX);
        due("4 greatest", x.copy(0, MAX, 1, MAX, MAX), INDEX);
        due("4 greatest n", x.copy(0, 1, 1, 1, MAX), INDEX);
        due("4 least", x.copy(0, MIN, 1, MIN, MIN), INDEX);
        dueSheet("4 as before", x, 1, 0, 3, 4, 4);
    }

    private static void dueSheet(String what, OneSumSquares x, int s, int... want) {
        for (int i = 0; i < want.length; i++) {
            int q = x.square(s, i, 1);
            due(what + " number " + i, x.at(q, 0, 0), want[i]);
            x.drop(q);
        }
    }

    private static void lose() {
        OneSumSquares x = new OneSumSquares();
        x.sheet(2, 1, 17);
        due("5 lose", x.lose(2), 17);
        due("5 lost", x.lose(2), NULL);
        due("5 s", x.lose(4), U);
        due("5 s below", x.lose(-1), U);
        due("5 count", x.count(1), 0);
    }

    private static void square() {
        OneSumSquares x = new OneSumSquares();
        x.sheet(0, 2, 150);
        for (int i = 0; i < 150; i++) {
            x.put(0, 2, i, i);
        }
        due("6 order 12", x.square(0, 6, 12), 0);
        due("6 first", x.at(0, 0, 0), 6);
        due("6 row by row", x.at(0, 1, 2), 20);
        due("6 last", x.at(0, 11, 11), 149);
        due("6 order 2", x.square(0, 10, 2), 1);
        dueNumbers("6", x, 1, 2, 10, 11, 12, 13);
        due("6 beyond", x.square(0, 7, 12), INDEX);
        due("6 below", x.square(0, -1, 1), INDEX);
        due("6 far", x.square(0, MAX, 1), INDEX);
        due("6 s", x.square(4, 0, 0), U);
        due("6 n 0", x.square(1, 0, 0), O);
        due("6 n 13", x.square(0, 0, 13), O);
        due("6 n great", x.square(0, 0, 65536), O);
        due("6 missing", x.square(1, -1, 1), NULL);
        x.put(0, 2, 0, 100000);
        x.put(0, 2, 1, -100000);
        x.put(0, 2, 2, 100001);
        x.put(0, 2, 3, -100001);
        x.put(0, 2, 4, MIN);
        due("6 greatest", x.square(0, 0, 1), 2);
        due("6 least", x.square(0, 1, 1), 3);
        due("6 too great", x.square(0, 2, 1), GREAT);
        due("6 too small", x.square(0, 3, 1), GREAT);
        due("6 far too small", x.square(0, 4, 1), GREAT);
        due("6 one of many", x.square(0, 0, 2), GREAT);
        due("6 a later change of the sheet", x.put(0, 2, 10, 5), 1);
        due("6 does not reach the square", x.at(1, 0, 0), 10);
    }

    private static void orderAtDrop() {
        OneSumSquares x = new OneSumSquares();
        for (int n = 3; n < 8; n++) {
            x.make(n);
        }
        due("7 order", x.order(4), 7);
        due("7 none", x.order(5), U);
        due("7 below", x.order(-1), U);
        due("7 above", x.order(24), U);
        due("7 least", x.order(MIN), U);
        due("8 at", x.at(0, 2, 1), 9);
        due("8 row beyond", x.at(0, 3, 0), 1000000);
        due("8 column beyond", x.at(0, 0, 3), 1000000);
        due("8 row below", x.at(0, -1, 3), 1000000);
        due("8 column below", x.at(0, 1, -1), 1000000);
        due("8 none", x.at(5, 0, 0), 1000000);
        due("8 below", x.at(-1, 0, 0), 1000000);
        due("9 drop", x.drop(3), 6);
        due("9 drop again", x.drop(3), U);
        due("9 drop another", x.drop(1), 4);
        due("9 above", x.drop(24), U);
        due("9 count", x.count(0), 3);
        due("9 others stay", x.order(4), 7);
        due("9 the least comes first", x.make(1), 1);
        due("9 then the next", x.make(8), 3);
        due("9 then new ones", x.make(9), 5);
        dueNumbers("9", x, 1, 1, 1);
    }

    private static void sum() {
        OneSumSquares x = new OneSumSquares();
        int q = lay(x, 3, 1, 2, 4, 8, 16, 32, 64, 128, -256);
        long[] want = {7, 56, -64, 73, 146, -220, 1 + 16 - 256, 2 + 32 + 64, 4 + 8 + 128,
            1 + 32 + 128, 2 + 8 - 256, 4 + 16 + 64};
        for (int line = 0; line < 12; line++) {
            due("10 line " + line, x.sum(q, line, 1), want[line]);
        }
        due("10 squares", x.sum(q, 2, 2), 64 * 64 + 128 * 128 + 256 * 256);
        due("10 cubes", x.sum(q, 2, 3), 64 * 64 * 64 + 128 * 128 * 128 - 256 * 256 * 256);
        due("10 line below", x.sum(q, -1, 1), 0);
        due("10 line above", x.sum(q, 12, 1), 0);
        due("10 power 0", x.sum(q, 0, 0), 0);
        due("10 power 4", x.sum(q, 0, 4), 0);
        due("10 none", x.sum(1, 0, 1), 0);
        due("10 below", x.sum(-1, 0, 1), 0);
        int great = lay(x, 2, 100000, 100000, -100000, -100000);
        due("10 great cubes", x.sum(great, 0, 3), 2000000000000000L);
        due("10 small cubes", x.sum(great, 1, 3), -2000000000000000L);
        due("10 great squares", x.sum(great, 1, 2), 20000000000L);
    }

    private static void kinds() {
        OneSumSquares x = new OneSumSquares();
        due("11 one", x.kinds(lay(x, 1, 1)), 127);
        due("11 one, not plain", x.kinds(lay(x, 1, -5)), 63);
        due("11 all alike", x.kinds(lay(x, 3, 4, 4, 4, 4, 4, 4, 4, 4, 4)), 63);
        due("11 plain alone", x.kinds(lay(x, 2, 1, 2, 3, 4)), 64);
        due("11 even alone", x.kinds(lay(x, 2, 1, 2, 2, 1)), 1);
        due("11 nothing", x.kinds(lay(x, 2, 1, 2, 3, 5)), 0);
        due("11 twice 1", x.kinds(lay(x, 2, 1, 1, 2, 3)), 0);
        due("11 from 0", x.kinds(lay(x, 2, 0, 1, 2, 3)), 0);
        due("11 even, one slant alone",
            x.kinds(lay(x, 3, 0, 1, 2, 2, 0, 1, 1, 2, 0)), 1);
        due("11 full, paired, plain", x.kinds(lay(x, 3, 2, 7, 6, 9, 5, 1, 4, 3, 8)), 75);
        due("11 round", x.kinds(lay(x, 4,
            1, 8, 13, 12, 14, 11, 2, 7, 4, 5, 16, 9, 15, 10, 3, 6)), 1 + 2 + 4 + 64);
        due("11 full alone", x.kinds(lay(x, 4,
            1, 2, 15, 16, 12, 14, 3, 5, 13, 7, 10, 4, 8, 11, 6, 9)), 1 + 2 + 64);
        due("11 even, both slants alike but not as the rows", x.kinds(lay(x, 4,
            1, 0, 0, 1, 0, 1, 1, 0, 0, 1, 1, 0, 1, 0, 0, 1)), 1);
        // Each line of it holds each number once; across the middle 0 and 2, but 3 and 4.
        due("11 thrice, not paired", x.kinds(lay(x, 5,
            0, 1, 2, 3, 4, 2, 3, 4, 0, 1, 4, 0, 1, 2, 3, 1, 2, 3, 4, 0, 3, 4, 0, 1, 2)), 55);
        due("11 thrice, paired, not round", x.kinds(lay(x, 4,
            0, 0, 3, 3, 3, 3, 0, 0, 3, 3, 0, 0, 0, 0, 3, 3)), 59);
        due("11 twice, not thrice", x.kinds(bimagic(x)), 1 + 2 + 16 + 64);
        due("11 unknown", x.kinds(24), U);
        due("11 below", x.kinds(-1), U);
    }

    // G. Pfeffermann's square of order 8.
    private static int bimagic(OneSumSquares x) {
        return lay(x, 8,
            56, 34, 8, 57, 18, 47, 9, 31,
            33, 20, 54, 48, 7, 29, 59, 10,
            26, 43, 13, 23, 64, 38, 4, 49,
            19, 5, 35, 30, 53, 12, 46, 60,
            15, 25, 63, 2, 41, 24, 50, 40,
            6, 55, 17, 11, 36, 58, 32, 45,
            61, 16, 42, 52, 27, 1, 39, 22,
            44, 62, 28, 37, 14, 51, 21, 3);
    }

    private static void odd() {
        OneSumSquares x = new OneSumSquares();
        int three = x.make(3);
        due("12 even", x.odd(three, 1, 1), -1);
        due("12 full", x.odd(three, 2, 1), -1);
        due("12 round", x.odd(three, 4, 1), 7);
        due("12 squares", x.odd(three, 1, 2), 1);
        int latin = lay(x, 3, 0, 1, 2, 2, 0, 1, 1, 2, 0);
        due("12 even latin", x.odd(latin, 1, 3), -1);
        due("12 first slant", x.odd(latin, 2, 1), 6);
        int other = lay(x, 3, 0, 1, 2, 1, 2, 0, 2, 0, 1);
        due("12 second slant", x.odd(other, 2, 1), 11);
        due("12 second slant for round", x.odd(other, 4, 1), 9);
        due("12 a column", x.odd(lay(x, 2, 1, 2, 1, 2), 1, 1), 2);
        due("12 one", x.odd(x.make(1), 4, 3), -1);
        due("12 kind 0", x.odd(three, 0, 1), O);
        due("12 kind 3", x.odd(three, 3, 1), O);
        due("12 kind 8", x.odd(three, 8, 1), O);
        due("12 kind 5", x.odd(three, 5, 1), O);
        due("12 power 0", x.odd(three, 1, 0), O);
        due("12 power 4", x.odd(three, 1, 4), O);
        due("12 unknown", x.odd(24, 0, 0), U);
        due("12 twice", x.odd(bimagic(x), 2, 2), -1);
    }

    private static void turn() {
        OneSumSquares x = new OneSumSquares();
        int q = lay(x, 3, 1, 2, 3, 4, 5, 6, 7, 8, 9);
        int[][] want = {
            {1, 2, 3, 4, 5, 6, 7, 8, 9},
            {7, 4, 1, 8, 5, 2, 9, 6, 3},
            {9, 8, 7, 6, 5, 4, 3, 2, 1},
            {3, 6, 9, 2, 5, 8, 1, 4, 7},
            {1, 4, 7, 2, 5, 8, 3, 6, 9},
            {3, 2, 1, 6, 5, 4, 9, 8, 7},
            {9, 6, 3, 8, 5, 2, 7, 4, 1},
            {7, 8, 9, 4, 5, 6, 1, 2, 3}};
        for (int t = 0; t < 8; t++) {
            int made = x.turn(q, t);
            due("13 number", made, t + 1);
            dueNumbers("13 turn " + t, x, made, 3, want[t]);
            due("15 same by " + t, x.same(q, made), t);
        }
        due("13 t below", x.turn(q, -1), O);
        due("13 t above", x.turn(q, 8), O);
        due("13 unknown", x.turn(9, 8), U);
    }

    private static void form() {
        OneSumSquares x = new OneSumSquares();
        int q = lay(x, 3, 1, 2, 3, 4, 5, 6, 7, 8, 9);
        int[] want = {0, 3, 2, 1, 4, 5, 6, 7};
        for (int t = 0; t < 8; t++) {
            int made = x.turn(q, t);
            due("14 form of turn " + t, x.form(made), want[t]);
            x.drop(made);
        }
        due("14 all alike", x.form(lay(x, 2, 3, 3, 3, 3)), 0);
        due("14 a later number decides", x.form(lay(x, 2, 1, 1, 1, 0)), 2);
        due("14 the least of several turns", x.form(lay(x, 2, 2, 1, 1, 2)), 1);
        due("14 below 0", x.form(lay(x, 2, 0, 0, -5, 0)), 1);
        due("14 unknown", x.form(24), U);
        due("14 none", x.form(-1), U);
    }

    private static void same() {
        OneSumSquares x = new OneSumSquares();
        int q = lay(x, 2, 1, 2, 3, 4);
        int r = x.turn(q, 1);
        due("15 there", x.same(q, r), 1);
        due("15 back", x.same(r, q), 3);
        due("15 itself", x.same(q, q), 0);
        due("15 another", x.same(q, lay(x, 2, 1, 4, 3, 2)), -1);
        due("15 another order", x.same(q, x.make(3)), -1);
        int alike = lay(x, 2, 5, 5, 5, 5);
        due("15 the least", x.same(alike, x.turn(alike, 6)), 0);
        due("15 q", x.same(20, q), U);
        due("15 r", x.same(q, 20), U);
        due("15 r below", x.same(q, -1), U);
    }

    private static void unlike() {
        OneSumSquares x = new OneSumSquares();
        due("16 one", x.unlike(x.make(1)), 1);
        due("16 eight", x.unlike(lay(x, 2, 1, 2, 3, 4)), 8);
        due("16 two", x.unlike(lay(x, 2, 1, 2, 2, 1)), 2);
        due("16 four", x.unlike(lay(x, 2, 1, 2, 2, 2)), 4);
        due("16 four by rows", x.unlike(lay(x, 2, 1, 1, 2, 2)), 4);
        due("16 all alike", x.unlike(lay(x, 2, 7, 7, 7, 7)), 1);
        due("16 a whirl", x.unlike(lay(x, 3, 1, 2, 1, 2, 5, 2, 1, 2, 1)), 1);
        due("16 two whirls", x.unlike(lay(x, 4,
            0, 1, 0, 0, 0, 0, 0, 1, 1, 0, 0, 0, 0, 0, 1, 0)), 2);
        due("16 unknown", x.unlike(24), U);
    }

    private static void make() {
        OneSumSquares x = new OneSumSquares();
        dueNumbers("17 one", x, x.make(1), 1, 1);
        dueNumbers("17 three", x, x.make(3), 3, 8, 1, 6, 3, 5, 7, 4, 9, 2);
        dueNumbers("17 four", x, x.make(4), 4, 16, 2, 3, 13, 5, 11, 10, 8, 9, 7, 6, 12, 4, 14, 15, 1);
        dueNumbers("17 five", x, x.make(5), 5,
            17, 24, 1, 8, 15, 23, 5, 7, 14, 16, 4, 6, 13, 20, 22, 10, 12, 19, 21, 3, 11, 18, 25, 2, 9);
        dueNumbers("17 six", x, x.make(6), 6,
            32, 29, 4, 1, 24, 21, 30, 31, 2, 3, 22, 23,
            12, 9, 17, 20, 28, 25, 10, 11, 18, 19, 26, 27,
            13, 16, 36, 33, 5, 8, 14, 15, 34, 35, 6, 7);
        int ten = x.make(10);
        dueRow("17 ten", x, ten, 0, 68, 65, 96, 93, 4, 1, 32, 29, 60, 57);
        dueRow("17 ten", x, ten, 4, 16, 13, 24, 21, 49, 52, 80, 77, 88, 85);
        dueRow("17 ten", x, ten, 6, 37, 40, 45, 48, 76, 73, 81, 84, 9, 12);
        dueRow("17 ten", x, ten, 9, 43, 42, 71, 70, 99, 98, 7, 6, 35, 34);
        int[] kinds = {127, U, 75, 75, 75, 67, 75, 75, 75, 67, 75, 75};
        for (int n = 1; n <= 12; n++) {
            int q = x.make(n);
            due("17 make " + n, q, n == 2 ? O : 6);
            if (n != 2) {
                due("17 order " + n, x.order(q), n);
                due("17 even, full, plain " + n, x.kinds(q) & 67, 67);
                if (n == 1 || n == 3 || n == 4 || n == 6 || n == 10 || n == 12) {
                    due("17 kinds " + n, x.kinds(q), kinds[n - 1]);
                }
                x.drop(q);
            }
        }
        due("17 none", x.make(0), O);
        due("17 two", x.make(2), O);
        due("17 thirteen", x.make(13), O);
        due("17 below", x.make(-3), O);
        due("17 least", x.make(MIN), O);
        due("17 eight: a corner", x.at(x.make(8), 7, 7), 1);
    }

    private static void dueRow(String what, OneSumSquares x, int q, int i, int... want) {
        for (int j = 0; j < want.length; j++) {
            due(what + " at " + i + " " + j, x.at(q, i, j), want[j]);
        }
    }

    private static void product() {
        OneSumSquares x = new OneSumSquares();
        int q = lay(x, 2, 1, 2, 3, 0);
        int r = lay(x, 2, 5, 6, 7, -8);
        dueNumbers("18", x, x.product(q, r), 4, 5, 6, 9, 10, 7, -8, 11, -4, 13, 14, 1, 2, 15, 0, 3, -12);
        int three = x.make(3);
        int four = x.make(4);
        int twelve = x.product(three, four);
        due("18 order", x.order(twelve), 12);
        due("18 kinds", x.kinds(twelve), 75);
        due("18 another way", x.at(x.product(four, three), 0, 0), 8 + 9 * 15);
        due("18 too large", x.product(four, four), O);
        due("18 q", x.product(20, q), U);
        due("18 r", x.product(q, 20), U);
        int great = lay(x, 1, 100000);
        int one = x.make(1);
        due("18 greatest", x.at(x.product(great, one), 0, 0), 100000);
        int two = lay(x, 1, 2);
        due("18 great", x.product(great, two), GREAT);
        int small = lay(x, 1, -99998);
        due("18 least", x.at(x.product(small, lay(x, 1, -1)), 0, 0), -100000);
        due("18 small", x.product(small, lay(x, 1, -2)), GREAT);
        due("18 size is told ahead of great", x.product(twelve, lay(x, 2, 100000, 0, 0, 0)), O);
    }

    private static void swap() {
        OneSumSquares x = new OneSumSquares();
        int q = lay(x, 3, 1, 2, 3, 4, 5, 6, 7, 8, 9);
        dueNumbers("19 first", x, x.swap(q, 0), 3, 9, 8, 7, 6, 5, 4, 3, 2, 1);
        dueNumbers("19 last", x, x.swap(q, 2), 3, 9, 8, 7, 6, 5, 4, 3, 2, 1);
        dueNumbers("19 middle", x, x.swap(q, 1), 3, 1, 2, 3, 4, 5, 6, 7, 8, 9);
        int four = lay(x, 4, 1, 2, 3, 4, 5, 6, 7, 8, 9, 10, 11, 12, 13, 14, 15, 16);
        dueNumbers("19 inner", x, x.swap(four, 1), 4, 1, 3, 2, 4, 9, 11, 10, 12, 5, 7, 6, 8, 13, 15, 14, 16);
        dueNumbers("19 outer", x, x.swap(four, 3), 4, 16, 14, 15, 13, 8, 6, 7, 5, 12, 10, 11, 9, 4, 2, 3, 1);
        due("19 row below", x.swap(q, -1), O);
        due("19 row above", x.swap(q, 3), O);
        due("19 unknown", x.swap(20, -1), U);
    }

    private static void turned() {
        OneSumSquares x = new OneSumSquares();
        dueNumbers("20", x, x.turned(lay(x, 2, 1, 5, -3, 10)), 2, 6, 2, 10, -3);
        dueNumbers("20 one", x, x.turned(lay(x, 1, 100000)), 1, 100000);
        dueNumbers("20 far apart", x, x.turned(lay(x, 2, 100000, -100000, 99999, 0)), 2,
            -100000, 100000, -99999, 0);
        due("20 unknown", x.turned(-1), U);
        due("20 none", x.turned(20), U);
    }

    private static void scale() {
        OneSumSquares x = new OneSumSquares();
        int q = lay(x, 2, 1, -2, 99, 0);
        dueNumbers("21", x, x.scale(q, -3, 7), 2, 4, 13, -290, 7);
        dueNumbers("21 greatest", x, x.scale(q, 1000, 1000), 2, 2000, -1000, 100000, 1000);
        dueNumbers("21 least", x, x.scale(q, -1000, -1000), 2, -2000, 1000, -100000, -1000);
        dueNumbers("21 to nothing", x, x.scale(q, 0, 0), 2, 0, 0, 0, 0);
        int more = lay(x, 1, 100);
        due("21 great", x.scale(more, 1000, 1), GREAT);
        due("21 small", x.scale(more, -1000, -1), GREAT);
        due("21 a above", x.scale(q, 1001, 0), O);
        due("21 a below", x.scale(q, -1001, 0), O);
        due("21 b above", x.scale(q, 0, 1001), O);
        due("21 b below", x.scale(q, 0, -1001), O);
        due("21 a least", x.scale(q, MIN, 0), O);
        due("21 unknown", x.scale(20, 1001, 0), U);
        due("21 far too great", x.scale(lay(x, 1, 100000), 1000, 1000), GREAT);
    }

    private static void plus() {
        OneSumSquares x = new OneSumSquares();
        int q = lay(x, 2, 1, -2, 50000, -50000);
        int r = lay(x, 2, 10, 20, 50000, -50000);
        dueNumbers("22", x, x.plus(q, r), 2, 11, 18, 100000, -100000);
        dueNumbers("22 itself", x, x.plus(q, q), 2, 2, -4, 100000, -100000);
        due("22 great", x.plus(q, lay(x, 2, 0, 0, 50001, 0)), GREAT);
        due("22 small", x.plus(q, lay(x, 2, 0, 0, 0, -50001)), GREAT);
        due("22 orders", x.plus(q, x.make(3)), O);
        due("22 q", x.plus(20, q), U);
        due("22 r", x.plus(q, -1), U);
    }

    private static void seekRefusals() {
        OneSumSquares x = new OneSumSquares();
        x.sheet(0, 0, 8);
        due("23 s", x.seek(4, 0, 0), U);
        due("23 s below", x.seek(-1, 3, 0), U);
        due("23 n 0", x.seek(1, 0, 0), O);
        due("23 n 5", x.seek(0, 5, 0), O);
        due("23 missing", x.seek(1, 3, 0), NULL);
        due("23 fewer", x.seek(0, 3, 0), INDEX);
        due("23 nothing was sought", x.found(), -1);
        due("25 nothing was sought", x.forms(), ST);
        due("26 nothing was sought", x.take(-1), ST);
        due("27 nothing was sought", x.place(-1), ST);
        due("30 no seek counts", x.count(2), 0);
        for (int i = 0; i < 12; i++) {
            due("23 seek " + i, x.seek(0, 2, i), 0);
        }
        due("30 twelve", x.count(2), 12);
        due("23 the thirteenth", x.seek(0, 2, 0), ST);
        due("23 ahead of missing", x.seek(1, 4, 0), ST);
        due("23 ahead of fewer", x.seek(0, 3, 0), ST);
        due("23 behind n", x.seek(0, 5, 0), O);
        due("23 behind s", x.seek(7, 5, 0), U);
        due("23 still twelve", x.count(2), 12);
    }

    private static void seekSmall() {
        OneSumSquares x = new OneSumSquares();
        x.sheet(0, 2, 9);
        due("23 order 1", x.seek(0, 1, -1), 1);
        due("25 order 1", x.forms(), 1);
        due("23 order 2", x.seek(0, 2, 0), 0);
        due("25 order 2", x.forms(), 0);
        due("24 none", x.found(), 0);
        due("23 order 3", x.seek(0, 3, 0), 8);
        due("25 order 3", x.forms(), 1);
        due("23 order 3 paired", x.seek(0, 3, 8), 8);
        due("23 order 3 round", x.seek(0, 3, 4), 0);
        due("23 order 3, other bits", x.seek(0, 3, ~12), 8);
        int[] least = {2, 7, 6, 9, 5, 1, 4, 3, 8};
        dueNumbers("26 the least", x, x.take(0), 3, least);
        x.put(0, 2, 4, 4);
        due("23 a wrong middle", x.seek(0, 3, 0), 0);
        x.put(0, 2, 4, 5);
        x.put(0, 2, 0, 5);
        due("23 held twice", x.seek(0, 3, 0), 0);
        x.put(0, 2, 0, 10);
        due("23 held beyond", x.seek(0, 3, 0), 0);
        x.put(0, 2, 0, -1);
        due("23 held below", x.seek(0, 3, 0), 0);
        x.put(0, 2, 0, MIN);
        due("23 held far below", x.seek(0, 3, 0), 0);
        x.put(0, 2, 0, 33);
        due("23 held far beyond", x.seek(0, 3, 0), 0);
        due("30 all count", x.count(2), 12);
        OneSumSquares y = new OneSumSquares();
        y.sheet(0, 2, 1);
        y.put(0, 2, 0, 2);
        due("23 order 1, held beyond", y.seek(0, 1, 0), 0);
        y.put(0, 2, 0, 1);
        due("23 order 1, held", y.seek(0, 1, 12), 1);
        y.sheet(0, 2, 10);
        y.put(0, 2, 9, 99);
        y.put(0, 2, 0, 8);
        due("23 more on the sheet", y.seek(0, 3, 0), 2);
        dueNumbers("26 first", y, y.take(0), 3, 8, 1, 6, 3, 5, 7, 4, 9, 2);
        dueNumbers("26 second", y, y.take(1), 3, 8, 3, 4, 1, 5, 9, 6, 7, 2);
        due("26 no third", y.take(2), U);
    }

    private static void seekWide() {
        int[] kinds = {0, 4, 8, 12};
        int[] all = {7040, 384, 384, 0};
        for (int i = 0; i < 4; i++) {
            OneSumSquares x = new OneSumSquares();
            x.sheet(0, 1, 16);
            due("23 all of order 4", x.seek(0, 4, kinds[i]), all[i]);
            due("25 forms", x.forms(), all[i] / 8);
            due("23 a second time", x.seek(0, 4, kinds[i]), ST);
            due("24 found stays", x.found(), all[i]);
        }
        OneSumSquares x = new OneSumSquares();
        x.sheet(0, 2, 16);
        x.sheet(1, 2, 15);
        x.put(0, 2, 0, 99);
        x.put(0, 2, 15, -99);
        due("23 two held, none can be", x.seek(0, 4, 0), 0);
        x.put(0, 2, 0, 0);
        x.put(0, 2, 15, 0);
        due("23 wide was sought", x.seek(0, 4, 0), ST);
        due("23 missing is told first", x.seek(2, 4, 0), NULL);
        due("23 fewer is told first", x.seek(1, 4, 0), INDEX);
        due("23 one count", x.count(2), 1);
        x.put(0, 2, 3, 99);
        x.put(0, 2, 4, 99);
        due("23 two are few", x.seek(0, 4, 0), ST);
        x.put(0, 2, 5, -1);
        due("23 three are not", x.seek(0, 4, 0), 0);
        due("23 nor are they later", x.seek(0, 4, 0), 0);
        due("30 three count", x.count(2), 3);
        x.sheet(0, 2, 17);
        x.put(0, 2, 16, 1);
        x.put(0, 2, 0, 1);
        x.put(0, 2, 1, 1);
        due("23 what is behind the first 16 is not held", x.seek(0, 4, 0), ST);
        orderOfAll();
    }

    private static void orderOfAll() {
        OneSumSquares x = new OneSumSquares();
        x.sheet(0, 1, 16);
        x.seek(0, 4, 0);
        int before = -1;
        for (int k = 0; k < 8; k++) {
            int which = k < 4 ? k : 7040 - 8 + k;
            int q = x.take(which);
            due("26 full and plain", x.kinds(q) & 67, 67);
            due("27 place", x.place(q), which);
            if (before >= 0) {
                due("26 in order", less(x, before, q) ? 1 : 0, 1);
                x.drop(before);
            }
            before = q;
        }
        dueNumbers("26 the first of all", x, x.take(0), 4, 1, 2, 15, 16, 12, 14, 3, 5, 13, 7, 10, 4, 8, 11, 6, 9);
        due("26 beyond", x.take(7040), U);
        due("26 below", x.take(-1), U);
    }

    private static boolean less(OneSumSquares x, int q, int r) {
        for (int i = 0; i < 16; i++) {
            int a = x.at(q, i / 4, i % 4);
            int b = x.at(r, i / 4, i % 4);
            if (a != b) {
                return a < b;
            }
        }
        return false;
    }

    private static void seekHeld() {
        OneSumSquares x = new OneSumSquares();
        x.sheet(0, 1, 16);
        int[] numbers = {16, 3, 2, 13, 5, 10, 11, 8, 9, 6, 7, 12, 4, 15, 14, 1};
        for (int i = 0; i < 16; i++) {
            x.put(0, 1, i, numbers[i]);
        }
        due("23 all held", x.seek(0, 4, 0), 1);
        due("23 all held, paired", x.seek(0, 4, 8), 1);
        due("23 all held, round", x.seek(0, 4, 4), 0);
        x.put(0, 1, 0, 1);
        due("23 all held, one twice", x.seek(0, 4, 0), 0);
        due("24 what was sought ahead is forgotten", x.found(), 0);
        due("26 and gone", x.take(0), U);
        x.put(0, 1, 0, 16);
        x.put(0, 1, 1, 2);
        x.put(0, 1, 2, 3);
        due("23 all held, not even", x.seek(0, 4, 0), 0);
    }

    private static void takeAndPlace() {
        OneSumSquares x = new OneSumSquares();
        x.sheet(0, 0, 9);
        x.seek(0, 3, 0);
        for (int k = 0; k < 8; k++) {
            due("26 number", x.take(k), k);
            due("27 place", x.place(k), k);
            due("15 all are turns of one", x.same(0, k) >= 0 ? 1 : 0, 1);
        }
        due("26 beyond", x.take(8), U);
        due("26 greatest", x.take(MAX), U);
        due("26 least", x.take(MIN), U);
        due("27 unknown", x.place(8), U);
        due("27 unknown, below", x.place(-1), U);
        due("27 another order", x.place(x.make(4)), -1);
        due("27 not full", x.place(lay(x, 3, 1, 2, 3, 4, 5, 6, 7, 8, 9)), -1);
        due("27 not plain", x.place(lay(x, 3, 5, 5, 5, 5, 5, 5, 5, 5, 5)), -1);
        due("27 number 0", x.place(lay(x, 3, 2, 7, 6, 9, 5, 1, 4, 3, 0)), -1);
        // Four bits of these numbers are as those of a square found.
        due("27 far", x.place(lay(x, 3, 18, 7, 6, 9, 5, 1, 4, 3, 8)), -1);
        due("27 far below", x.place(lay(x, 3, 2 - 16, 7, 6, 9, 5, 1, 4, 3, 8)), -1);
        due("27 far, behind an even one", x.place(lay(x, 3, 2, 7 + 16, 6, 9, 5, 1, 4, 3, 8)), -1);
        x.seek(0, 1, 0);
        due("27 one", x.place(lay(x, 1, 1)), 0);
        due("27 ones of another order", x.place(lay(x, 2, 1, 1, 1, 1)), -1);
        due("27 a former one", x.place(0), -1);
    }

    private static void causesAndCounts() {
        OneSumSquares x = new OneSumSquares();
        due("28 none", x.cause(), 0);
        x.lose(0);
        due("28 null", x.cause(), 1);
        x.sheet(0, 2, -5);
        due("28 size", x.cause(), 3);
        x.sheet(0, 2, 2);
        x.put(0, 2, 2, 0);
        due("28 index", x.cause(), 2);
        x.put(0, 1, 2, 0);
        due("28 cast", x.cause(), 4);
        x.put(0, 2, 0, MAX);
        x.square(0, 0, 1);
        due("28 great", x.cause(), 5);
        x.lose(3);
        x.lose(4);
        x.make(2);
        due("28 refusals are no causes", x.cause(), 1);
        int[] want = {O, 2, 1, 1, 1, 1, O};
        for (int c = 0; c < 7; c++) {
            due("29 causes " + c, x.causes(c), want[c]);
        }
        due("29 least", x.causes(MIN), O);
        due("29 greatest", x.causes(MAX), O);
        x.make(1);
        x.sheet(1, 0, 0);
        x.seek(0, 1, 0);
        due("30 squares", x.count(0), 1);
        due("30 sheets", x.count(1), 2);
        due("30 seeks", x.count(2), 1);
        due("30 below", x.count(-1), O);
        due("30 above", x.count(3), O);
    }

    private static void digest() {
        OneSumSquares x = new OneSumSquares();
        x.sheet(0, 0, 0);
        x.sheet(2, 2, 2);
        x.put(2, 2, 1, MIN);
        x.make(3);
        x.make(1);
        x.drop(0);
        x.sheet(3, 0, 1);
        x.put(3, 0, 0, 1);
        x.seek(3, 1, 0);
        long[] numbers = {0, -1, 2, 0, MIN, 1, 1, 1, 1, 1, 1};
        long h = 83;
        for (long number : numbers) {
            h = 31 * h + number;
        }
        due("31 digest", x.digest(), h);
        due("31 again", x.digest(), h);
    }

    private static void full() {
        OneSumSquares x = new OneSumSquares();
        x.sheet(0, 2, 9);
        x.sheet(1, 2, 1);
        x.seek(0, 3, 0);
        x.put(1, 2, 0, 100001);
        int great = x.scale(x.make(1), 1000, 1000);
        for (int q = 2; q < 24; q++) {
            due("6 number", x.make(1), q);
        }
        long before = x.digest();
        due("2 full: square", x.square(0, 0, 1), FU);
        due("2 full: square, behind great", x.square(1, 0, 1), GREAT);
        due("2 full: turn", x.turn(0, 0), FU);
        due("2 full: turn, behind t", x.turn(0, 8), O);
        due("2 full: make", x.make(1), FU);
        due("2 full: make, behind n", x.make(2), O);
        due("2 full: product", x.product(0, 0), FU);
        due("2 full: swap", x.swap(0, 0), FU);
        due("2 full: turned", x.turned(0), FU);
        due("2 full: scale", x.scale(0, 1, 1), FU);
        due("2 full: scale, behind great", x.scale(great, 1000, 0), GREAT);
        due("2 full: plus", x.plus(0, 0), FU);
        due("2 full: take", x.take(0), FU);
        due("2 full: take, behind unknown", x.take(8), U);
        due("2 nothing changes", x.digest(), before);
        due("30 full", x.count(0), 24);
        x.drop(7);
        due("9 one comes again", x.take(0), 7);
    }
}
