/** Promises 13 to 22, and the turns of the terms: each sentence with a bound has a test of its own. */
public final class MakingBounds {
    // Of no number of these a square has come in Checks.used().
    private static final int[] NO_SQUARES = {-1, 2, 5, 23, 24, Checks.MIN, Checks.MAX};

    public static void main(String[] args) {
        turnPlaces();
        turnBounds();
        formLeast();
        formLeastTurn();
        formBounds();
        sameTurns();
        sameBounds();
        unlikeCounts();
        unlikeBounds();
        makeOrders();
        makeOdd();
        makeFourfold();
        makeLettered();
        makeRefusals();
        productOrders();
        productNumbers();
        productRefusals();
        swapRows();
        swapRefusals();
        turnedNumbers();
        turnedRefusals();
        scaleFactors();
        scaleNumbers();
        scaleRefusals();
        plusNumbers();
        plusRefusals();
        madeOnesStandAlone();
        Checks.end();
    }

    // ---- promise 13

    // Where the document says that what stands at (i, j) stood.
    private static int stood(int n, int t, int i, int j) {
        int last = n - 1;
        int[][] places = {{i, j}, {last - j, i}, {last - i, last - j}, {j, last - i}};
        int[] place = places[t % 4];
        return t < 4 ? place[0] * n + place[1] : place[1] * n + place[0];
    }

    private static void turnPlaces() {
        int[] orders = {1, 2, 3, 4, 12};
        for (int n : orders) {
            int[] numbers = Checks.upTo(n * n);
            for (int t = 0; t < 8; t++) {
                OneSumSquares x = new OneSumSquares();
                int q = Checks.lay(x, n, numbers);
                Checks.due("13 its number", x.turn(q, t), 1);
                int[] want = new int[n * n];
                for (int cell = 0; cell < n * n; cell++) {
                    want[cell] = numbers[stood(n, t, cell / n, cell % n)];
                }
                Checks.dueNumbers("13 order " + n + ", turn " + t, x, 1, n, want);
                Checks.due("13 the old one stays", x.at(q, 0, n - 1), n);
            }
        }
    }

    private static void turnBounds() {
        int[] none = {-1, 8, 9, Checks.MIN, Checks.MAX};
        for (int t : none) {
            Checks.refused("13 no turn " + t, Checks::used, x -> x.turn(0, t), Checks.O);
            Checks.refused("13 full, no turn " + t, Checks::full, x -> x.turn(0, t), Checks.O);
        }
        for (int q : NO_SQUARES) {
            Checks.refused("13 no square " + q, Checks::used, x -> x.turn(q, 0), Checks.U);
            Checks.refused("13 no square, no turn", Checks::used, x -> x.turn(q, 8), Checks.U);
        }
        Checks.refused("13 full", Checks::full, x -> x.turn(0, 0), Checks.FU);
        Checks.refused("13 full, the last turn", Checks::full, x -> x.turn(0, 7), Checks.FU);
    }

    // ---- promise 14

    private static int formOf(int n, int... numbers) {
        OneSumSquares x = new OneSumSquares();
        return x.form(Checks.lay(x, n, numbers));
    }

    private static void formLeast() {
        Checks.due("14 turn 0", formOf(2, 1, 2, 3, 4), 0);
        Checks.due("14 turn 1", formOf(2, 2, 4, 1, 3), 1);
        Checks.due("14 turn 2", formOf(2, 4, 3, 2, 1), 2);
        Checks.due("14 turn 3", formOf(2, 3, 1, 4, 2), 3);
        Checks.due("14 turn 4", formOf(2, 1, 3, 2, 4), 4);
        Checks.due("14 turn 5", formOf(2, 2, 1, 4, 3), 5);
        Checks.due("14 turn 6", formOf(2, 4, 2, 3, 1), 6);
        Checks.due("14 turn 7", formOf(2, 3, 4, 1, 2), 7);
        Checks.due("14 below 0 is less", formOf(2, 1, -1, 1, 1), 3);
        Checks.due("14 the last but one decides", formOf(3, 0, 0, 0, 0, 0, 2, 0, 1, 0), 4);
        Checks.due("14 the greatest and the least", formOf(2, 100000, 100000, -100000, 100000), 1);
    }

    private static void formLeastTurn() {
        Checks.due("14 one", formOf(1, 5), 0);
        Checks.due("14 all alike", formOf(3, 2, 2, 2, 2, 2, 2, 2, 2, 2), 0);
        Checks.due("14 by 0 and 2", formOf(2, 1, 2, 2, 1), 0);
        Checks.due("14 by 1 and 3", formOf(2, 2, 1, 1, 2), 1);
        Checks.due("14 by 0 and 5", formOf(2, 1, 1, 2, 2), 0);
        Checks.due("14 by 2 and 7", formOf(2, 2, 2, 1, 1), 2);
    }

    private static void formBounds() {
        for (int q : NO_SQUARES) {
            Checks.refused("14 no square " + q, Checks::used, x -> x.form(q), Checks.U);
        }
        Checks.tells("14 known", Checks::used, x -> x.form(0), 6);
        Checks.tells("14 full", Checks::full, x -> x.form(23), 0);
    }

    // ---- promise 15

    private static void sameTurns() {
        int[] orders = {2, 3, 12};
        for (int n : orders) {
            for (int t = 0; t < 8; t++) {
                OneSumSquares x = new OneSumSquares();
                int q = Checks.lay(x, n, Checks.upTo(n * n));
                int r = x.turn(q, t);
                Checks.due("15 turn " + t, x.same(q, r), t);
                // Turns 1 and 3 undo each other, all others themselves.
                Checks.due("15 back from turn " + t, x.same(r, q), t == 1 ? 3 : t == 3 ? 1 : t);
            }
        }
        OneSumSquares x = new OneSumSquares();
        int q = Checks.lay(x, 2, 2, 1, 1, 2);
        Checks.due("15 the least of several", x.same(q, x.turn(q, 7)), 1);
        Checks.due("15 the least of all", x.same(q, x.turn(q, 6)), 0);
    }

    private static void sameBounds() {
        for (int q : NO_SQUARES) {
            Checks.refused("15 q is " + q, Checks::used, x -> x.same(q, 0), Checks.U);
            Checks.refused("15 r is " + q, Checks::used, x -> x.same(0, q), Checks.U);
            Checks.refused("15 both are " + q, Checks::used, x -> x.same(q, q), Checks.U);
        }
        Checks.tells("15 itself", Checks::used, x -> x.same(4, 4), 0);
        Checks.tells("15 another order", Checks::used, x -> x.same(0, 1), Checks.NONE);
        Checks.tells("15 another order, the other way", Checks::used, x -> x.same(1, 0), Checks.NONE);
        Checks.tells("15 a smaller one", Checks::used, x -> x.same(3, 4), Checks.NONE);
        OneSumSquares x = new OneSumSquares();
        int last = Checks.lay(x, 2, 1, 2, 3, 4);
        Checks.due("15 one number is another", x.same(last, Checks.lay(x, 2, 1, 2, 3, 5)), Checks.NONE);
        Checks.due("15 the same, laid otherwise", x.same(last, Checks.lay(x, 2, 1, 2, 4, 3)), Checks.NONE);
        Checks.due("15 alike numbers, another order",
            x.same(Checks.layAll(x, 2, 1), Checks.layAll(x, 3, 1)), Checks.NONE);
    }

    // ---- promise 16

    private static int unlikeOf(int n, int... numbers) {
        OneSumSquares x = new OneSumSquares();
        return x.unlike(Checks.lay(x, n, numbers));
    }

    private static void unlikeCounts() {
        Checks.due("16 one", unlikeOf(1, 9), 1);
        Checks.due("16 all alike", unlikeOf(2, 9, 9, 9, 9), 1);
        Checks.due("16 a middle", unlikeOf(3, 0, 0, 0, 0, 1, 0, 0, 0, 0), 1);
        Checks.due("16 two", unlikeOf(2, 1, 2, 2, 1), 2);
        Checks.due("16 four, a corner", unlikeOf(2, 1, 0, 0, 0), 4);
        Checks.due("16 four, a side", unlikeOf(3, 0, 1, 0, 0, 0, 0, 0, 0, 0), 4);
        Checks.due("16 four, by halves", unlikeOf(2, 1, 2, 2, 3), 4);
        Checks.due("16 eight", unlikeOf(2, 1, 2, 3, 4), 8);
        Checks.due("16 eight, by two numbers", unlikeOf(3, 1, 1, 0, 0, 0, 0, 0, 0, 0), 8);
        Checks.due("16 eight, of 12", unlikeOf(12, Checks.upTo(144)), 8);
        Checks.due("16 a whirl and its mirror", unlikeOf(4,
            0, 1, 0, 0, 0, 0, 0, 1, 1, 0, 0, 0, 0, 0, 1, 0), 2);
        Checks.due("16 half a whirl", unlikeOf(4,
            0, 1, 0, 0, 0, 0, 0, 2, 2, 0, 0, 0, 0, 0, 1, 0), 4);
    }

    private static void unlikeBounds() {
        for (int q : NO_SQUARES) {
            Checks.refused("16 no square " + q, Checks::used, x -> x.unlike(q), Checks.U);
        }
        Checks.tells("16 known", Checks::used, x -> x.unlike(4), 8);
        Checks.tells("16 full", Checks::full, x -> x.unlike(23), 1);
    }

    // ---- promise 17

    private static void makeOrders() {
        int[] kinds = {127, 0, 75, 75, 75, 67, 75, 75, 75, 67, 75, 75};
        for (int n = 1; n <= 12; n++) {
            if (n != 2) {
                OneSumSquares x = new OneSumSquares();
                Checks.due("17 make " + n, x.make(n), 0);
                Checks.due("17 its order", x.order(0), n);
                Checks.due("17 kinds of " + n, x.kinds(0), kinds[n - 1]);
            }
        }
    }

    // By counting, not by steps: number v of the rule goes along with v - 1 up and to the right, but
    // behind each n of them the way goes down.
    private static void makeOdd() {
        for (int n = 1; n <= 11; n += 2) {
            OneSumSquares x = new OneSumSquares();
            x.make(n);
            for (int v = 0; v < n * n; v++) {
                int down = v / n;
                int row = Math.floorMod(down - (v - down), n);
                int column = Math.floorMod(n / 2 + v - down, n);
                Checks.due("17 order " + n + ", number " + (v + 1), x.at(0, row, column), v + 1);
            }
        }
    }

    private static void makeFourfold() {
        OneSumSquares x = new OneSumSquares();
        Checks.dueNumbers("17 four", x, x.make(4), 4, 16, 2, 3, 13, 5, 11, 10, 8, 9, 7, 6, 12, 4, 14, 15, 1);
        for (int n = 4; n <= 12; n += 4) {
            int q = x.make(n);
            Checks.due("17 first corner of " + n, x.at(q, 0, 0), n * n);
            Checks.due("17 second corner", x.at(q, 0, n - 1), n * n + 1 - n);
            Checks.due("17 third corner", x.at(q, n - 1, 0), n);
            Checks.due("17 last corner", x.at(q, n - 1, n - 1), 1);
            Checks.due("17 beside the first", x.at(q, 0, 1), 2);
            Checks.due("17 the next block", x.at(q, 4 % n, n - 4), n == 4 ? 16 : n * n + 1 - (4 * n + n - 3));
            Checks.due("17 between blocks", x.at(q, n - 1, n - 2), n * n - 1);
        }
    }

    private static void makeLettered() {
        OneSumSquares x = new OneSumSquares();
        Checks.dueNumbers("17 six", x, x.make(6), 6,
            32, 29, 4, 1, 24, 21, 30, 31, 2, 3, 22, 23,
            12, 9, 17, 20, 28, 25, 10, 11, 18, 19, 26, 27,
            13, 16, 36, 33, 5, 8, 14, 15, 34, 35, 6, 7);
        int ten = x.make(10);
        int five = x.make(5);
        // Rows of letters of order 10, as the document tells them, with those in the middle changed.
        String[] letters = {"LLLLL", "LLLLL", "LLULL", "UULUU", "XXXXX"};
        for (int i = 0; i < 10; i++) {
            for (int j = 0; j < 10; j++) {
                char letter = letters[i / 2].charAt(j / 2);
                String four = letter == 'L' ? "4123" : letter == 'U' ? "1423" : "1432";
                int want = 4 * x.at(five, i / 2, j / 2) - 4 + four.charAt(i % 2 * 2 + j % 2) - '0';
                Checks.due("17 ten at " + i + ", " + j, x.at(ten, i, j), want);
            }
        }
    }

    private static void makeRefusals() {
        int[] none = {0, 2, 13, 14, 16, -1, -2, -3, Checks.MIN, Checks.MAX};
        for (int n : none) {
            Checks.refused("17 no order " + n, Checks::used, x -> x.make(n), Checks.O);
            Checks.refused("17 full, no order " + n, Checks::full, x -> x.make(n), Checks.O);
        }
        for (int n = 1; n <= 12; n++) {
            int order = n;
            if (order != 2) {
                Checks.refused("17 full, order " + n, Checks::full, x -> x.make(order), Checks.FU);
            }
        }
    }

    // ---- promise 18

    private static void productOrders() {
        int[][] fits = {{1, 1}, {1, 12}, {12, 1}, {3, 4}, {4, 3}, {1, 11}, {3, 3}};
        for (int[] orders : fits) {
            OneSumSquares x = new OneSumSquares();
            int q = x.make(orders[0]);
            int r = x.make(orders[1]);
            Checks.due("18 its number", x.product(q, r), 2);
            Checks.due("18 its order", x.order(2), orders[0] * orders[1]);
            Checks.due("18 full and plain", x.kinds(2) & 67, 67);
        }
        int[][] beyond = {{12, 12}, {4, 4}, {3, 5}, {5, 3}, {12, 3}, {3, 12}};
        for (int[] orders : beyond) {
            Checks.Scene both = x -> {
                x.make(orders[0]);
                x.make(orders[1]);
            };
            Checks.refused("18 too large", both, x -> x.product(0, 1), Checks.O);
        }
        Checks.Scene two = x -> {
            Checks.layAll(x, 2, 1);
            Checks.layAll(x, 6, 1);
            Checks.layAll(x, 7, 1);
        };
        OneSumSquares x = new OneSumSquares();
        two.lay(x);
        Checks.due("18 of 2 and 6", x.product(0, 1), 3);
        Checks.due("18 of 6 and 2", x.product(1, 0), 4);
        Checks.refused("18 of 2 and 7", two, y -> y.product(0, 2), Checks.O);
        Checks.refused("18 of 7 and 2", two, y -> y.product(2, 0), Checks.O);
    }

    private static void productOf(String what, int outer, int inner, int want) {
        Checks.Scene scene = x -> {
            Checks.lay(x, 1, outer);
            Checks.lay(x, 2, 0, 0, 0, inner);
        };
        if (want == Checks.GREAT) {
            Checks.blamed(what, scene, x -> x.product(0, 1), want);
            return;
        }
        OneSumSquares x = new OneSumSquares();
        scene.lay(x);
        Checks.due(what, x.product(0, 1), 2);
        Checks.due(what + ": number", x.at(2, 1, 1), want);
    }

    private static void productNumbers() {
        productOf("18 below the greatest", 25001, -1, 99999);
        productOf("18 greatest", 25001, 0, 100000);
        productOf("18 beyond", 25001, 1, Checks.GREAT);
        productOf("18 above the least", -24999, 1, -99999);
        productOf("18 least", -24999, 0, -100000);
        productOf("18 below", -24999, -1, Checks.GREAT);
        productOf("18 far beyond", 100000, 100000, Checks.GREAT);
        productOf("18 far below", -100000, -100000, Checks.GREAT);
        OneSumSquares x = new OneSumSquares();
        int great = Checks.lay(x, 1, 100000);
        Checks.due("18 far beyond, of 12", x.product(great, x.make(12)), Checks.GREAT);
        Checks.dueNumbers("18 places", x, x.product(Checks.lay(x, 2, 1, 2, 3, 0), Checks.lay(x, 2, 5, 6, 7, -8)), 4,
            5, 6, 9, 10, 7, -8, 11, -4, 13, 14, 1, 2, 15, 0, 3, -12);
    }

    private static void productRefusals() {
        for (int q : NO_SQUARES) {
            Checks.refused("18 q is " + q, Checks::used, x -> x.product(q, 4), Checks.U);
            Checks.refused("18 r is " + q, Checks::used, x -> x.product(4, q), Checks.U);
            Checks.refused("18 both are " + q, Checks::used, x -> x.product(q, q), Checks.U);
        }
        Checks.Scene great = x -> {
            Checks.lay(x, 1, 100000);
            Checks.lay(x, 4, new int[16]);
            for (int i = 0; i < 22; i++) {
                x.make(1);
            }
        };
        Checks.blamed("18 full, great", great, x -> x.product(0, 0), Checks.GREAT);
        Checks.refused("18 full, too large", great, x -> x.product(1, 1), Checks.O);
        Checks.refused("18 full", great, x -> x.product(2, 2), Checks.FU);
        Checks.refused("18 full, no square", great, x -> x.product(2, 24), Checks.U);
        Checks.Scene large = x -> {
            Checks.layAll(x, 4, 100000);
        };
        Checks.refused("18 too large ahead of great", large, x -> x.product(0, 0), Checks.O);
    }

    // ---- promise 19

    private static void swapRows() {
        for (int n = 1; n <= 12; n++) {
            for (int i = 0; i < n; i++) {
                OneSumSquares x = new OneSumSquares();
                int q = Checks.lay(x, n, Checks.upTo(n * n));
                int r = x.swap(q, i);
                Checks.due("19 its number", r, 1);
                for (int k = 0; k < n; k++) {
                    int other = k == i || k == n - 1 - i ? n - 1 - k : k;
                    Checks.due("19 order " + n + ", row " + i + ": on the slant", x.at(r, k, k), other * n + other + 1);
                    Checks.due("19 order " + n + ", row " + i + ": in the first column", x.at(r, k, 0),
                        other * n + (i == 0 || i == n - 1 ? n - 1 : 0) + 1);
                }
                Checks.due("19 the old one stays", x.at(q, 0, 0), 1);
            }
        }
        OneSumSquares x = new OneSumSquares();
        int odd = Checks.lay(x, 3, Checks.upTo(9));
        Checks.dueNumbers("19 the middle row, with itself", x, x.swap(odd, 1), 3, Checks.upTo(9));
        Checks.dueNumbers("19 the first row", x, x.swap(odd, 0), 3, 9, 8, 7, 6, 5, 4, 3, 2, 1);
        Checks.dueNumbers("19 the last row", x, x.swap(odd, 2), 3, 9, 8, 7, 6, 5, 4, 3, 2, 1);
    }

    private static void swapRefusals() {
        int[] none = {-1, 3, 4, Checks.MIN, Checks.MAX};
        for (int i : none) {
            Checks.refused("19 no row " + i, Checks::used, x -> x.swap(0, i), Checks.O);
            Checks.refused("19 full, no row " + i, Checks::full, x -> x.swap(0, i), Checks.O);
        }
        Checks.refused("19 no row 12", Checks::used, x -> x.swap(4, 12), Checks.O);
        Checks.refused("19 no row 1 of one", Checks::used, x -> x.swap(3, 1), Checks.O);
        for (int q : NO_SQUARES) {
            Checks.refused("19 no square " + q, Checks::used, x -> x.swap(q, 0), Checks.U);
            Checks.refused("19 no square, no row", Checks::used, x -> x.swap(q, -1), Checks.U);
        }
        Checks.refused("19 full", Checks::full, x -> x.swap(0, 2), Checks.FU);
    }

    // ---- promise 20

    private static void turnedNumbers() {
        OneSumSquares x = new OneSumSquares();
        Checks.dueNumbers("20 one", x, x.turned(Checks.lay(x, 1, -7)), 1, -7);
        Checks.dueNumbers("20 the greatest alone", x, x.turned(Checks.lay(x, 1, 100000)), 1, 100000);
        Checks.dueNumbers("20 the least alone", x, x.turned(Checks.lay(x, 1, -100000)), 1, -100000);
        Checks.dueNumbers("20 both", x, x.turned(Checks.lay(x, 2, 100000, -100000, 99999, 1)), 2,
            -100000, 100000, -99999, -1);
        Checks.dueNumbers("20 great ones alone", x, x.turned(Checks.lay(x, 2, 100000, 99999, 99998, 99999)), 2,
            99998, 99999, 100000, 99999);
        Checks.dueNumbers("20 the least is last", x, x.turned(Checks.lay(x, 2, 5, 4, 9, 1)), 2, 5, 6, 1, 9);
        Checks.dueNumbers("20 all below 0", x, x.turned(Checks.lay(x, 2, -5, -4, -9, -1)), 2, -5, -6, -1, -9);
        int three = x.make(3);
        Checks.dueNumbers("20 plain", x, x.turned(three), 3, 2, 9, 4, 7, 5, 3, 6, 1, 8);
        Checks.due("20 the old one stays", x.at(three, 0, 0), 8);
    }

    private static void turnedRefusals() {
        for (int q : NO_SQUARES) {
            Checks.refused("20 no square " + q, Checks::used, x -> x.turned(q), Checks.U);
        }
        Checks.refused("20 full", Checks::full, x -> x.turned(0), Checks.FU);
        Checks.refused("20 full, no square", Checks::full, x -> x.turned(24), Checks.U);
    }

    // ---- promise 21

    private static void scaleFactors() {
        int[] fits = {-1000, -999, -1, 0, 1, 999, 1000};
        for (int a : fits) {
            OneSumSquares x = new OneSumSquares();
            int q = Checks.lay(x, 2, 1, 0, -3, 99);
            Checks.dueNumbers("21 times " + a, x, x.scale(q, a, 0), 2, a, 0, -3 * a, 99 * a);
            Checks.dueNumbers("21 and " + a, x, x.scale(q, 1, a), 2, 1 + a, a, a - 3, 99 + a);
            Checks.dueNumbers("21 the old one stays", x, q, 2, 1, 0, -3, 99);
        }
        int[] none = {-1001, 1001, -1002, 1002, Checks.MIN, Checks.MAX};
        for (int a : none) {
            Checks.refused("21 times " + a, Checks::used, x -> x.scale(0, a, 0), Checks.O);
            Checks.refused("21 and " + a, Checks::used, x -> x.scale(0, 0, a), Checks.O);
            Checks.refused("21 both " + a, Checks::full, x -> x.scale(0, a, a), Checks.O);
        }
    }

    private static void scaled(String what, int number, int a, int b, int want) {
        Checks.Scene scene = x -> Checks.lay(x, 2, 0, 0, 0, number);
        if (want == Checks.GREAT) {
            Checks.blamed(what, scene, x -> x.scale(0, a, b), want);
            return;
        }
        OneSumSquares x = new OneSumSquares();
        scene.lay(x);
        Checks.dueNumbers(what, x, x.scale(0, a, b), 2, b, b, b, want);
    }

    private static void scaleNumbers() {
        scaled("21 greatest", 100, 1000, 0, 100000);
        scaled("21 below the greatest", 100, 1000, -1, 99999);
        scaled("21 beyond", 100, 1000, 1, Checks.GREAT);
        scaled("21 least", -100, 1000, 0, -100000);
        scaled("21 above the least", -100, 1000, 1, -99999);
        scaled("21 below", -100, 1000, -1, Checks.GREAT);
        scaled("21 the other way", 100, -1000, -1, Checks.GREAT);
        scaled("21 beyond, then back", 101, 1000, -1000, 100000);
        scaled("21 greatest and 1", 100000, 1, 1, Checks.GREAT);
        scaled("21 greatest turned", 100000, -1, 0, -100000);
        scaled("21 far beyond", 100000, 1000, 1000, Checks.GREAT);
        scaled("21 far below", 100000, -1000, -1000, Checks.GREAT);
        scaled("21 to nothing", 100000, 0, 0, 0);
    }

    private static void scaleRefusals() {
        for (int q : NO_SQUARES) {
            Checks.refused("21 no square " + q, Checks::used, x -> x.scale(q, 1, 1), Checks.U);
            Checks.refused("21 no square, a, b", Checks::full, x -> x.scale(q < 24 ? -1 : q, 1001, 1001), Checks.U);
        }
        // Order 12 has 144, of which 1000 times is beyond.
        Checks.blamed("21 great", Checks::used, x -> x.scale(4, 1000, 0), Checks.GREAT);
        Checks.blamed("21 full, great", Checks::full, x -> x.scale(4, 1000, 0), Checks.GREAT);
        Checks.refused("21 full", Checks::full, x -> x.scale(4, 1, 0), Checks.FU);
        Checks.refused("21 a ahead of great", Checks::used, x -> x.scale(4, 1001, 0), Checks.O);
        Checks.refused("21 b ahead of great", Checks::used, x -> x.scale(4, 1000, 1001), Checks.O);
    }

    // ---- promise 22

    private static void added(String what, int one, int other, int want) {
        Checks.Scene scene = x -> {
            Checks.lay(x, 2, 1, 2, 3, one);
            Checks.lay(x, 2, 10, 20, 30, other);
        };
        if (want == Checks.GREAT) {
            Checks.blamed(what, scene, x -> x.plus(0, 1), want);
            return;
        }
        OneSumSquares x = new OneSumSquares();
        scene.lay(x);
        Checks.dueNumbers(what, x, x.plus(0, 1), 2, 11, 22, 33, want);
        Checks.due("22 the old one stays", x.at(0, 1, 1), one);
    }

    private static void plusNumbers() {
        added("22 below the greatest", 50000, 49999, 99999);
        added("22 greatest", 50000, 50000, 100000);
        added("22 beyond", 50000, 50001, Checks.GREAT);
        added("22 above the least", -50000, -49999, -99999);
        added("22 least", -50000, -50000, -100000);
        added("22 below", -50000, -50001, Checks.GREAT);
        added("22 far beyond", 100000, 100000, Checks.GREAT);
        added("22 far below", -100000, -100000, Checks.GREAT);
        added("22 both bounds", 100000, -100000, 0);
        OneSumSquares x = new OneSumSquares();
        Checks.dueNumbers("22 with itself", x, x.plus(x.make(3), 0), 3, 16, 2, 12, 6, 10, 14, 8, 18, 4);
        Checks.dueNumbers("22 order 1", x, x.plus(x.make(1), 2), 1, 2);
    }

    private static void plusRefusals() {
        for (int q : NO_SQUARES) {
            Checks.refused("22 q is " + q, Checks::used, x -> x.plus(q, 0), Checks.U);
            Checks.refused("22 r is " + q, Checks::used, x -> x.plus(0, q), Checks.U);
            Checks.refused("22 both are " + q, Checks::used, x -> x.plus(q, q), Checks.U);
        }
        Checks.refused("22 orders", Checks::used, x -> x.plus(0, 1), Checks.O);
        Checks.refused("22 orders, the other way", Checks::used, x -> x.plus(1, 0), Checks.O);
        Checks.refused("22 full, orders", Checks::full, x -> x.plus(0, 1), Checks.O);
        Checks.refused("22 full", Checks::full, x -> x.plus(0, 0), Checks.FU);
        Checks.Scene great = x -> {
            Checks.lay(x, 1, 60000);
            Checks.lay(x, 2, 60000, 60000, 60000, 60000);
            for (int i = 0; i < 22; i++) {
                x.make(1);
            }
        };
        Checks.blamed("22 full, great", great, x -> x.plus(0, 0), Checks.GREAT);
        Checks.refused("22 orders ahead of great", great, x -> x.plus(0, 1), Checks.O);
    }

    // A made one is new: what becomes of those that it was made of does not reach it.
    private static void madeOnesStandAlone() {
        OneSumSquares x = new OneSumSquares();
        int three = x.make(3);
        int[] made = {x.turn(three, 0), x.swap(three, 1), x.scale(three, 1, 0), x.product(three, x.make(1)),
            x.turned(x.turned(three))};
        x.drop(three);
        x.make(12);
        for (int q : made) {
            Checks.dueNumbers("made one " + q, x, q, 3, 8, 1, 6, 3, 5, 7, 4, 9, 2);
        }
    }
}
