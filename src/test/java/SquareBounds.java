/** Promises 6 to 12, and the lines and kinds of the terms: each sentence with a bound has a test. */
public final class SquareBounds {
    // Of no number of these a square has come in Checks.used().
    private static final int[] NO_SQUARES = {-1, 2, 5, 23, 24, 25, Checks.MIN, Checks.MAX};
    private static final int[] ALL_ORDERS = {1, 2, 3, 4, 5, 6, 7, 8, 9, 10, 11, 12};

    public static void main(String[] args) {
        squareOrders();
        squareWindow();
        squareNumbers();
        squareLooksAtItsOwnAlone();
        squareTakesACopy();
        squareRefusals();
        squareNumbersAsTheyCome();
        squareFull();
        orderBounds();
        atBounds();
        dropBounds();
        dropLeastFreeFirst();
        sumLinesAndPlaces();
        sumBounds();
        sumPowers();
        kindsOfOne();
        kindsEven();
        kindsFull();
        kindsRound();
        kindsPaired();
        kindsTwiceThrice();
        kindsPlain();
        kindsUnknown();
        oddFirstLine();
        oddAsksOnlyItsLines();
        oddOfPowers();
        oddBounds();
        Checks.end();
    }

    // ---- promise 6

    private static void squareOrders() {
        for (int n : ALL_ORDERS) {
            OneSumSquares x = new OneSumSquares();
            x.sheet(0, 1, n * n);
            for (int i = 0; i < n * n; i++) {
                x.put(0, 1, i, 1000 + i);
            }
            Checks.due("6 order " + n, x.square(0, 0, n), 0);
            Checks.due("6 its order", x.order(0), n);
            Checks.due("6 its first", x.at(0, 0, 0), 1000);
            Checks.due("6 end of its first row", x.at(0, 0, n - 1), 999 + n);
            Checks.due("6 its last row", x.at(0, n - 1, 0), 1000 + n * n - n);
            Checks.due("6 its last", x.at(0, n - 1, n - 1), 999 + n * n);
            Checks.due("6 one fewer", x.square(0, 1, n), Checks.INDEX);
        }
        int[] none = {0, 13, 14, -1, -12, 46341, 65536, Checks.MIN, Checks.MAX};
        for (int n : none) {
            Checks.refused("6 order " + n, Checks::used, x -> x.square(2, 0, n), Checks.O);
        }
    }

    private static void squareWindow() {
        OneSumSquares x = new OneSumSquares();
        x.sheet(0, 0, 150);
        Checks.due("6 from 0", x.square(0, 0, 12), 0);
        Checks.due("6 up to the end", x.square(0, 6, 12), 1);
        Checks.due("6 the last alone", x.square(0, 149, 1), 2);
        int[][] beyond = {{7, 12}, {150, 1}, {147, 2}, {-1, 1}, {-1, 12}, {Checks.MAX, 1}, {Checks.MAX, 12},
            {Checks.MAX - 143, 12}, {Checks.MIN, 1}, {Checks.MIN, 12}};
        for (int[] a : beyond) {
            Checks.blamed("6 from " + a[0] + ", order " + a[1], Checks::used,
                y -> y.square(2, a[0], a[1]), Checks.INDEX);
        }
        Checks.blamed("6 of none", y -> y.sheet(0, 0, 0), y -> y.square(0, 0, 1), Checks.INDEX);
    }

    // In Checks.used() the bounds stand at 140 to 145 of sheet 2.
    private static void squareNumbers() {
        OneSumSquares x = new OneSumSquares();
        Checks.used(x);
        Checks.dueNumbers("6 greatest", x, x.square(2, 140, 1), 1, 100000);
        Checks.dueNumbers("6 least", x, x.square(2, 141, 1), 1, -100000);
        for (int i = 142; i < 146; i++) {
            int from = i;
            Checks.blamed("6 beyond", Checks::used, y -> y.square(2, from, 1), Checks.GREAT);
        }
        Checks.blamed("6 the first is great", Checks::used, y -> y.square(2, 145, 2), Checks.GREAT);
        Checks.blamed("6 the last is great", Checks::used, y -> y.square(2, 139, 2), Checks.GREAT);
        Checks.blamed("6 one of 144 is great", Checks::used, y -> y.square(2, 6, 12), Checks.GREAT);
    }

    private static void squareLooksAtItsOwnAlone() {
        OneSumSquares x = new OneSumSquares();
        x.sheet(0, 2, 6);
        x.put(0, 2, 0, 100001);
        x.put(0, 2, 5, -100001);
        Checks.dueNumbers("6 between great ones", x, x.square(0, 1, 2), 2, 0, 0, 0, 0);
    }

    private static void squareTakesACopy() {
        OneSumSquares x = new OneSumSquares();
        x.sheet(0, 0, 4);
        int q = x.square(0, 0, 2);
        x.put(0, 0, 3, 9);
        Checks.dueNumbers("6 behind put()", x, q, 2, 0, 0, 0, 0);
        x.lose(0);
        Checks.dueNumbers("6 behind lose()", x, q, 2, 0, 0, 0, 0);
    }

    private static void squareRefusals() {
        int[] none = {-1, 4, Checks.MIN, Checks.MAX};
        for (int s : none) {
            Checks.refused("6 no sheet " + s, Checks::used, x -> x.square(s, 0, 1), Checks.U);
            Checks.refused("6 no sheet, order", Checks::full, x -> x.square(s, -1, 13), Checks.U);
        }
        Checks.blamed("6 missing", Checks::used, x -> x.square(3, 0, 1), Checks.NULL);
        Checks.refused("6 order, missing", Checks::used, x -> x.square(3, -1, 13), Checks.O);
        Checks.refused("6 order, place", Checks::used, x -> x.square(0, -1, 0), Checks.O);
        Checks.blamed("6 missing, place", Checks::used, x -> x.square(3, -1, 1), Checks.NULL);
        Checks.blamed("6 place, great", Checks::used, x -> x.square(2, 142, 3), Checks.INDEX);
    }

    private static void squareNumbersAsTheyCome() {
        OneSumSquares x = new OneSumSquares();
        x.sheet(0, 0, 1);
        for (int q = 0; q < 24; q++) {
            Checks.due("6 number", x.square(0, 0, 1), q);
            Checks.due("30 there", x.count(0), q + 1);
        }
        Checks.due("6 the 25th", x.square(0, 0, 1), Checks.FU);
        Checks.due("30 still", x.count(0), 24);
    }

    private static void squareFull() {
        Checks.refused("6 full", Checks::full, x -> x.square(0, 0, 1), Checks.FU);
        Checks.refused("6 full, order", Checks::full, x -> x.square(0, 0, 13), Checks.O);
        Checks.blamed("6 full, missing", Checks::full, x -> x.square(3, 0, 1), Checks.NULL);
        Checks.blamed("6 full, place", Checks::full, x -> x.square(0, 16, 1), Checks.INDEX);
        Checks.blamed("6 full, great", Checks::full, x -> x.square(2, 142, 1), Checks.GREAT);
    }

    // ---- promises 7, 8, 9

    private static void orderBounds() {
        for (int q : NO_SQUARES) {
            Checks.refused("7 no square " + q, Checks::used, x -> x.order(q), Checks.U);
        }
        Checks.refused("7 no squares", Checks::empty, x -> x.order(0), Checks.U);
        int[] orders = {3, 4, Checks.U, 1, 12, Checks.U};
        for (int i = 0; i < orders.length; i++) {
            int q = i;
            Checks.tells("7 order of " + q, Checks::used, x -> x.order(q), orders[q]);
        }
        Checks.tells("7 the last of 24", Checks::full, x -> x.order(23), 1);
        Checks.refused("7 beyond 24", Checks::full, x -> x.order(24), Checks.U);
    }

    private static void atBounds() {
        for (int q : NO_SQUARES) {
            Checks.tells("8 no square " + q, Checks::used, x -> x.at(q, 0, 0), Checks.NO_NUMBER);
        }
        Checks.tells("8 no squares", Checks::empty, x -> x.at(0, 0, 0), Checks.NO_NUMBER);
        int[] none = {-1, 3, 4, Checks.MIN, Checks.MAX};
        for (int i : none) {
            Checks.tells("8 no row " + i, Checks::used, x -> x.at(0, i, 0), Checks.NO_NUMBER);
            Checks.tells("8 no column " + i, Checks::used, x -> x.at(0, 0, i), Checks.NO_NUMBER);
            Checks.tells("8 neither", Checks::used, x -> x.at(0, i, i), Checks.NO_NUMBER);
            Checks.tells("8 no row, last column", Checks::used, x -> x.at(0, i, 2), Checks.NO_NUMBER);
        }
        Checks.tells("8 last", Checks::used, x -> x.at(0, 2, 2), 2);
        Checks.tells("8 last of 12", Checks::used, x -> x.at(4, 11, 11), 1);
        Checks.tells("8 beyond 12", Checks::used, x -> x.at(4, 11, 12), Checks.NO_NUMBER);
        Checks.tells("8 a row beyond 12", Checks::used, x -> x.at(4, 12, 11), Checks.NO_NUMBER);
        Checks.tells("8 beyond 1", Checks::used, x -> x.at(3, 0, 1), Checks.NO_NUMBER);
    }

    private static void dropBounds() {
        for (int q : NO_SQUARES) {
            Checks.refused("9 no square " + q, Checks::used, x -> x.drop(q), Checks.U);
        }
        Checks.refused("9 no squares", Checks::empty, x -> x.drop(0), Checks.U);
        OneSumSquares x = new OneSumSquares();
        Checks.full(x);
        Checks.due("9 the first", x.drop(0), 3);
        Checks.due("9 the last", x.drop(23), 1);
        Checks.due("9 again", x.drop(23), Checks.U);
        Checks.due("9 it is gone", x.at(23, 0, 0), Checks.NO_NUMBER);
        Checks.due("9 others stay", x.order(4), 12);
        Checks.due("9 left", x.count(0), 22);
    }

    private static void dropLeastFreeFirst() {
        OneSumSquares x = new OneSumSquares();
        Checks.full(x);
        int[] gone = {23, 4, 11, 0};
        for (int q : gone) {
            x.drop(q);
        }
        int[] again = {0, 4, 11, 23};
        for (int q : again) {
            Checks.due("9 the least that is free", x.make(3), q);
        }
        Checks.due("9 none is free", x.make(3), Checks.FU);
        Checks.dueNumbers("9 a smaller one where a greater was", x, 4, 3, 8, 1, 6, 3, 5, 7, 4, 9, 2);
        Checks.due("9 nothing of the greater one", x.at(4, 3, 3), Checks.NO_NUMBER);
        for (int q = 0; q < 24; q++) {
            x.drop(q);
        }
        Checks.due("9 none is left", x.count(0), 0);
        Checks.due("9 from 0 again", x.make(1), 0);
    }

    // ---- promise 10

    // One number at a time is 1: it shows in its row, its column, one falling and one rising line.
    private static void sumLinesAndPlaces() {
        int[] orders = {1, 2, 3, 4, 5, 12};
        for (int n : orders) {
            for (int cell = 0; cell < n * n; cell++) {
                OneSumSquares x = new OneSumSquares();
                int[] numbers = new int[n * n];
                numbers[cell] = 1;
                int q = Checks.lay(x, n, numbers);
                int i = cell / n;
                int j = cell % n;
                for (int line = 0; line < 4 * n; line++) {
                    boolean on = line == i || line == n + j || line == 2 * n + (j - i + n) % n
                        || line == 3 * n + (j + i) % n;
                    Checks.due("10 order " + n + ", cell " + cell + ", line " + line, x.sum(q, line, 1), on ? 1 : 0);
                }
            }
        }
    }

    private static void sumBounds() {
        for (int q : NO_SQUARES) {
            Checks.tells("10 no square " + q, Checks::used, x -> x.sum(q, 0, 1), 0);
        }
        int[] none = {-1, 12, 13, Checks.MIN, Checks.MAX};
        for (int line : none) {
            Checks.tells("10 no line " + line, Checks::used, x -> x.sum(0, line, 1), 0);
        }
        int[] powers = {0, 4, 5, -1, Checks.MIN, Checks.MAX};
        for (int power : powers) {
            Checks.tells("10 no power " + power, Checks::used, x -> x.sum(0, 0, power), 0);
        }
        Checks.tells("10 the first line", Checks::used, x -> x.sum(0, 0, 1), 15);
        Checks.tells("10 the last line", Checks::used, x -> x.sum(0, 11, 1), 15);
        Checks.tells("10 the last line of one", Checks::used, x -> x.sum(3, 3, 3), 1);
        Checks.tells("10 beyond it", Checks::used, x -> x.sum(3, 4, 1), 0);
        Checks.tells("10 the last line of 12", Checks::used, x -> x.sum(4, 47, 1), 870);
        Checks.tells("10 beyond the last of 12", Checks::used, x -> x.sum(4, 48, 1), 0);
    }

    private static void sumPowers() {
        OneSumSquares x = new OneSumSquares();
        int great = Checks.layAll(x, 12, 100000);
        int small = Checks.layAll(x, 12, -100000);
        for (int line = 0; line < 48; line += 47) {
            Checks.due("10 greatest", x.sum(great, line, 1), 1200000L);
            Checks.due("10 greatest squares", x.sum(great, line, 2), 120000000000L);
            Checks.due("10 greatest cubes", x.sum(great, line, 3), 12000000000000000L);
            Checks.due("10 least", x.sum(small, line, 1), -1200000L);
            Checks.due("10 squares of the least", x.sum(small, line, 2), 120000000000L);
            Checks.due("10 least cubes", x.sum(small, line, 3), -12000000000000000L);
        }
        int three = x.make(3);
        Checks.due("10 squares", x.sum(three, 0, 2), 64 + 1 + 36);
        Checks.due("10 cubes", x.sum(three, 0, 3), 512 + 1 + 216);
    }

    // ---- promise 11

    private static int kindsOf(int n, int... numbers) {
        OneSumSquares x = new OneSumSquares();
        return x.kinds(Checks.lay(x, n, numbers));
    }

    private static void kindsOfOne() {
        Checks.due("11 the number 1", kindsOf(1, 1), 127);
        int[] others = {0, 2, -1, 100000, -100000};
        for (int number : others) {
            Checks.due("11 one number " + number, kindsOf(1, number), 63);
        }
        for (int n = 2; n <= 9; n++) {
            OneSumSquares x = new OneSumSquares();
            Checks.due("11 all alike", x.kinds(Checks.layAll(x, n, 100000 - n)), 63);
        }
    }

    private static void kindsEven() {
        Checks.due("11 rows alike alone", kindsOf(2, 1, 2, 1, 2), 0);
        Checks.due("11 columns alike alone", kindsOf(2, 1, 1, 2, 2), 0);
        Checks.due("11 the last row is off", kindsOf(3, 1, 1, 1, 1, 1, 1, 2, 2, 2), 0);
        Checks.due("11 the last column is off", kindsOf(3, 1, 1, 2, 1, 1, 2, 1, 1, 2), 0);
        Checks.due("11 even", kindsOf(2, 1, 2, 2, 1), 1);
        Checks.due("11 even, below 0", kindsOf(2, -1, 1, 1, -1), 1);
    }

    private static void kindsFull() {
        Checks.due("11 the falling slant is off", kindsOf(3, 0, 1, 2, 2, 0, 1, 1, 2, 0), 1);
        Checks.due("11 the rising slant is off", kindsOf(3, 2, 1, 0, 1, 0, 2, 0, 2, 1), 1);
        Checks.due("11 both are off alike", kindsOf(4,
            1, 0, 0, 1, 0, 1, 1, 0, 0, 1, 1, 0, 1, 0, 0, 1), 1);
        Checks.due("11 slants alike, rows not", kindsOf(2, 1, 1, 2, 2), 0);
    }

    // Laid so that (i, j) has values[(j + step i) modulo 5]: of step 1 the rising lines have one number
    // each, of step 4 the falling ones; of steps 2, 3 each line has all five.
    private static int[] stepped(int step, int... values) {
        int[] numbers = new int[25];
        for (int i = 0; i < 5; i++) {
            for (int j = 0; j < 5; j++) {
                numbers[5 * i + j] = values[(j + step * i) % 5];
            }
        }
        return numbers;
    }

    private static void kindsRound() {
        Checks.due("11 rising lines are off", kindsOf(5, stepped(1, 0, 3, 4, 1, 2)), 3);
        Checks.due("11 falling lines are off", kindsOf(5, stepped(4, 2, 0, 3, 4, 1)), 3);
        Checks.due("11 all lines are alike", kindsOf(5, stepped(2, 0, 3, 4, 1, 2)) & 7, 7);
        Checks.due("11 all lines but the slants", kindsOf(2, 1, 2, 2, 1), 1);
        Checks.due("11 all lines, not in squares", kindsOf(4,
            1, 8, 13, 12, 14, 11, 2, 7, 4, 5, 16, 9, 15, 10, 3, 6), 71);
        Checks.due("11 not all lines, but in squares", kindsOf(4,
            -1, -1, 1, 1, 1, 1, -1, -1, 1, 1, -1, -1, -1, -1, 1, 1), 59);
    }

    private static void kindsPaired() {
        Checks.due("11 pairs alike, and full", kindsOf(5, stepped(1, 0, 1, 3, 4, 2)), 11);
        Checks.due("11 pairs alike, not full", kindsOf(3, Checks.upTo(9)), 64);
        Checks.due("11 pairs alike, not even", kindsOf(2, 1, 2, 3, 5), 0);
        Checks.due("11 pairs not alike, full", kindsOf(4,
            1, 2, 15, 16, 12, 14, 3, 5, 13, 7, 10, 4, 8, 11, 6, 9), 67);
    }

    private static void kindsTwiceThrice() {
        Checks.due("11 full in squares alone", kindsOf(2, 1, -1, -1, 1), 1);
        Checks.due("11 full in squares, not even", kindsOf(2, 1, 1, -1, -1), 0);
        Checks.due("11 full in cubes, not in squares", kindsOf(4,
            1, -1, -1, 1, 0, 0, 0, 0, 0, 0, 0, 0, -1, 1, 1, -1), 11);
        Checks.due("11 full in all three", kindsOf(4,
            0, 0, 3, 3, 3, 3, 0, 0, 3, 3, 0, 0, 0, 0, 3, 3), 59);
        Checks.due("11 full in squares, not in cubes", kindsOf(8,
            56, 34, 8, 57, 18, 47, 9, 31, 33, 20, 54, 48, 7, 29, 59, 10,
            26, 43, 13, 23, 64, 38, 4, 49, 19, 5, 35, 30, 53, 12, 46, 60,
            15, 25, 63, 2, 41, 24, 50, 40, 6, 55, 17, 11, 36, 58, 32, 45,
            61, 16, 42, 52, 27, 1, 39, 22, 44, 62, 28, 37, 14, 51, 21, 3), 83);
        Checks.due("11 full in cubes, not in fourth powers", kindsOf(8, fourthPowersOff()) & 51, 51);
        Checks.due("11 full, a row off in squares", kindsOf(3, 8, 1, 6, 3, 5, 7, 4, 9, 2), 75);
        Checks.due("11 a slant off in squares", kindsOf(5, stepped(1, 0, 1, 3, 4, 2)) & 48, 0);
    }

    // Four blocks, in each of which all lines have four numbers and those against them: 1 and 8 above,
    // 4 and 7 below, as 1 + 64 is 16 + 49.
    private static int[] fourthPowersOff() {
        int[][] block = {{0, 1, 2, 3}, {2, 3, 0, 1}, {3, 2, 1, 0}, {1, 0, 3, 2}};
        int[][] values = {{1, -1, 8, -8}, {4, -4, 7, -7}};
        int[] numbers = new int[64];
        for (int cell = 0; cell < 64; cell++) {
            numbers[cell] = values[cell / 32][block[cell / 8 % 4][cell % 4]];
        }
        return numbers;
    }

    private static void kindsPlain() {
        for (int n : ALL_ORDERS) {
            int most = n * n;
            int[] numbers = Checks.upTo(most);
            int others = n == 1 ? 63 : 0;
            Checks.due("11 plain", kindsOf(n, numbers), 64 + others);
            numbers[0] = 0;
            Checks.due("11 a 0 for the 1", kindsOf(n, numbers), others);
            numbers[0] = most + 1;
            Checks.due("11 one beyond for the 1", kindsOf(n, numbers), others);
            numbers[0] = most;
            Checks.due("11 the last twice", kindsOf(n, numbers), n == 1 ? 127 : 0);
            numbers[0] = -1;
            Checks.due("11 one below 0", kindsOf(n, numbers), others);
        }
        int[] backwards = Checks.upTo(144);
        for (int i = 0; i < 144; i++) {
            backwards[i] = 144 - i;
        }
        Checks.due("11 plain, backwards", kindsOf(12, backwards), 64);
        backwards[143] = 2;
        Checks.due("11 the last comes twice", kindsOf(12, backwards), 0);
        Checks.due("11 a plain one behind another", plainBehindAnother(), 75);
    }

    private static int plainBehindAnother() {
        OneSumSquares x = new OneSumSquares();
        int three = x.make(3);
        x.kinds(x.make(12));
        x.kinds(three);
        return x.kinds(three);
    }

    private static void kindsUnknown() {
        for (int q : NO_SQUARES) {
            Checks.refused("11 no square " + q, Checks::used, x -> x.kinds(q), Checks.U);
        }
        Checks.tells("11 known", Checks::used, x -> x.kinds(0), 75);
    }

    // ---- promise 12

    private static int oddOf(int kind, int power, int n, int... numbers) {
        OneSumSquares x = new OneSumSquares();
        return x.odd(Checks.lay(x, n, numbers), kind, power);
    }

    private static void oddFirstLine() {
        Checks.due("12 row 1", oddOf(1, 1, 3, 1, 1, 1, 2, 2, 2, 2, 2, 2), 1);
        Checks.due("12 the last row", oddOf(1, 1, 3, 1, 1, 1, 1, 1, 1, 2, 2, 2), 2);
        Checks.due("12 the first column", oddOf(1, 1, 3, 0, 2, 1, 0, 2, 1, 0, 2, 1), 3);
        Checks.due("12 a later column", oddOf(1, 1, 3, 1, 2, 0, 1, 2, 0, 1, 2, 0), 4);
        Checks.due("12 the last column", oddOf(1, 1, 4, 1, 1, 0, 2, 1, 1, 0, 2, 1, 1, 0, 2, 1, 1, 0, 2), 6);
        Checks.due("12 of one", oddOf(4, 3, 1, -7), Checks.NONE);
    }

    private static void oddAsksOnlyItsLines() {
        int[] falling = {0, 1, 2, 2, 0, 1, 1, 2, 0};
        Checks.due("12 even asks no slant", oddOf(1, 1, 3, falling), Checks.NONE);
        Checks.due("12 full asks the falling slant", oddOf(2, 1, 3, falling), 6);
        Checks.due("12 round asks it too", oddOf(4, 1, 3, falling), 6);
        int[] rising = {2, 1, 0, 1, 0, 2, 0, 2, 1};
        Checks.due("12 even asks no other slant", oddOf(1, 1, 3, rising), Checks.NONE);
        Checks.due("12 full asks the rising slant, the last line", oddOf(2, 1, 3, rising), 11);
        Checks.due("12 round comes to an earlier line", oddOf(4, 1, 3, rising), 9);
        int[] lines = stepped(1, 0, 3, 4, 1, 2);
        Checks.due("12 full asks no other rising line", oddOf(2, 1, 5, lines), Checks.NONE);
        Checks.due("12 round asks rising lines", oddOf(4, 1, 5, lines), 15);
        int[] others = stepped(4, 2, 0, 3, 4, 1);
        Checks.due("12 full asks no other falling line", oddOf(2, 1, 5, others), Checks.NONE);
        Checks.due("12 round asks falling lines", oddOf(4, 1, 5, others), 11);
        // Rising lines 0 to 2 hold the mean, so that 3 is the first and the slant, 4, is off too.
        Checks.due("12 round asks the last ones", oddOf(4, 1, 5, stepped(1, 2, 2, 2, 1, 3)), 18);
    }

    private static void oddOfPowers() {
        int[] signs = {1, -1, -1, 1};
        Checks.due("12 sums", oddOf(4, 1, 2, signs), 4);
        Checks.due("12 squares", oddOf(4, 2, 2, signs), Checks.NONE);
        Checks.due("12 cubes", oddOf(4, 3, 2, signs), 4);
        int[] bands = {1, -1, -1, 1, 0, 0, 0, 0, 0, 0, 0, 0, -1, 1, 1, -1};
        Checks.due("12 sums, full", oddOf(2, 1, 4, bands), Checks.NONE);
        Checks.due("12 squares, not even", oddOf(2, 2, 4, bands), 1);
        Checks.due("12 cubes, full", oddOf(2, 3, 4, bands), Checks.NONE);
        Checks.due("12 great cubes", oddOf(4, 3, 2, 100000, 100000, 99999, 100000), 1);
    }

    private static void oddBounds() {
        int[] kinds = {0, 3, 5, 6, 7, 8, 16, 32, 64, 127, -1, -2, -4, Checks.MIN, Checks.MAX};
        for (int kind : kinds) {
            Checks.refused("12 kind " + kind, Checks::used, x -> x.odd(0, kind, 1), Checks.O);
        }
        int[] powers = {0, 4, 5, -1, Checks.MIN, Checks.MAX};
        for (int power : powers) {
            Checks.refused("12 power " + power, Checks::used, x -> x.odd(0, 1, power), Checks.O);
        }
        for (int q : NO_SQUARES) {
            Checks.refused("12 no square " + q, Checks::used, x -> x.odd(q, 1, 1), Checks.U);
            Checks.refused("12 no square, kind, power", Checks::used, x -> x.odd(q, 0, 0), Checks.U);
        }
        Checks.tells("12 kind 1", Checks::used, x -> x.odd(0, 1, 1), Checks.NONE);
        Checks.tells("12 kind 2", Checks::used, x -> x.odd(0, 2, 1), Checks.NONE);
        Checks.tells("12 kind 4", Checks::used, x -> x.odd(0, 4, 1), 7);
        Checks.tells("12 power 3", Checks::used, x -> x.odd(0, 1, 3), 1);
    }
}
