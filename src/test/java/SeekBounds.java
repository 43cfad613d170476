import java.util.ArrayList;
import java.util.Arrays;
import java.util.List;

/** Promises 23 to 27: each sentence with a bound has a test of its own. */
public final class SeekBounds {
    // All of order 3, the least first.
    private static final int[][] THREES = {
        {2, 7, 6, 9, 5, 1, 4, 3, 8}, {2, 9, 4, 7, 5, 3, 6, 1, 8}, {4, 3, 8, 9, 5, 1, 2, 7, 6},
        {4, 9, 2, 3, 5, 7, 8, 1, 6}, {6, 1, 8, 7, 5, 3, 2, 9, 4}, {6, 7, 2, 1, 5, 9, 8, 3, 4},
        {8, 1, 6, 3, 5, 7, 4, 9, 2}, {8, 3, 4, 1, 5, 9, 6, 7, 2}};

    // All of order 4, as the model finds them.
    private static final List<int[][]> FOURS = fours();

    private static List<int[][]> fours() {
        Model model = new Model();
        model.sheet(0, 1, 16);
        model.seek(0, 4, 0);
        return model.found;
    }

    public static void main(String[] args) {
        seekRefusals();
        seekOrders();
        seekSheetSizes();
        seekKinds();
        seekAllOfOrderFour();
        seekHeldPlaces();
        seekTwoHeldPlaces();
        seekThreeHeldOfOrderFour();
        seekHeldNumbers();
        seekHeldTwice();
        seekLooksAtTheFirstAlone();
        seekTwelveTimes();
        seekRefusalsDoNotCount();
        seekTwelveOrderOfRefusals();
        seekFewHeldOnce();
        seekFewHeldHowever();
        seekFewHeldAnywhere();
        seekFewHeldOrderOfRefusals();
        seekFewHeldLast();
        seekForgets();
        foundBounds();
        formsBounds();
        takeBounds();
        takeInOrder();
        takeAllOfOrderFour();
        takenOnesStay();
        placeBounds();
        placeOfOthers();
        placeOfFarNumbers();
        placeOfForgottenOnes();
        Checks.end();
    }

    private static OneSumSquares withSheet(int n, int... held) {
        OneSumSquares x = new OneSumSquares();
        hold(x, n, held);
        return x;
    }

    // Sheet 0 becomes one of ints, n n in all, that begins with those held.
    private static void hold(OneSumSquares x, int n, int... held) {
        x.sheet(0, 2, n * n);
        for (int i = 0; i < held.length; i++) {
            x.put(0, 2, i, held[i]);
        }
    }

    // ---- promise 23

    private static void seekRefusals() {
        int[] noSheets = {-1, 4, Checks.MIN, Checks.MAX};
        for (int s : noSheets) {
            Checks.refused("23 no sheet " + s, Checks::used, x -> x.seek(s, 3, 0), Checks.U);
            Checks.refused("23 no sheet, order", Checks::used, x -> x.seek(s, 0, 0), Checks.U);
        }
        int[] noOrders = {0, 5, 6, -1, -4, Checks.MIN, Checks.MAX, 65536};
        for (int n : noOrders) {
            Checks.refused("23 no order " + n, Checks::used, x -> x.seek(0, n, 0), Checks.O);
            Checks.refused("23 no order, missing", Checks::used, x -> x.seek(3, n, 0), Checks.O);
        }
        for (int i = 1; i <= 4; i++) {
            int n = i;
            Checks.blamed("23 missing, order " + n, Checks::used, x -> x.seek(3, n, 0), Checks.NULL);
            Checks.blamed("23 missing, all of them", Checks::empty, x -> x.seek(0, n, 0), Checks.NULL);
        }
    }

    private static void seekOrders() {
        int[] many = {1, 0, 8};
        int[] least = {1, 0, 1};
        for (int n = 1; n <= 3; n++) {
            for (int lane = 0; lane < 3; lane++) {
                OneSumSquares x = new OneSumSquares();
                x.sheet(3, lane, n * n);
                Checks.due("23 order " + n, x.seek(3, n, 0), many[n - 1]);
                Checks.due("24 found", x.found(), many[n - 1]);
                Checks.due("25 forms", x.forms(), least[n - 1]);
            }
        }
    }

    private static void seekSheetSizes() {
        for (int i = 1; i <= 4; i++) {
            int n = i;
            Checks.blamed("23 one fewer than order " + n + " asks", x -> x.sheet(0, 1, n * n - 1),
                x -> x.seek(0, n, 0), Checks.INDEX);
            Checks.blamed("23 of none", x -> x.sheet(0, 1, 0), x -> x.seek(0, n, 0), Checks.INDEX);
        }
        OneSumSquares x = new OneSumSquares();
        int[] sizes = {9, 10, 150};
        for (int size : sizes) {
            x.sheet(0, 1, size);
            Checks.due("23 of " + size, x.seek(0, 3, 0), 8);
        }
    }

    private static void seekKinds() {
        OneSumSquares x = withSheet(3);
        int[] all = {0, 8, 1, 2, 3, 16, 32, 64, ~12, ~4, Checks.MIN};
        for (int kinds : all) {
            Checks.due("23 order 3, kinds " + kinds, x.seek(0, 3, kinds), 8);
        }
        OneSumSquares y = withSheet(3);
        int[] none = {4, 12, 5, 6, -1, ~8, 127, Checks.MAX};
        for (int kinds : none) {
            Checks.due("23 order 3, kinds " + kinds, y.seek(0, 3, kinds), 0);
        }
        OneSumSquares z = withSheet(1);
        int[] ones = {0, 4, 8, 12, -1, Checks.MAX, Checks.MIN};
        for (int kinds : ones) {
            Checks.due("23 order 1, kinds " + kinds, z.seek(0, 1, kinds), 1);
        }
    }

    private static void seekAllOfOrderFour() {
        int[][] counts = {{0, 7040}, {4, 384}, {8, 384}, {12, 0}, {~12, 7040}, {-1, 0}, {~8, 384}, {~4, 384}};
        for (int[] count : counts) {
            OneSumSquares x = withSheet(4);
            Checks.due("23 order 4, kinds " + count[0], x.seek(0, 4, count[0]), count[1]);
            Checks.due("24 found", x.found(), count[1]);
            Checks.due("25 one of eight", x.forms(), count[1] / 8);
        }
    }

    // Each place held by each number: those of the eight that have it.
    private static void seekHeldPlaces() {
        for (int cell = 0; cell < 9; cell++) {
            OneSumSquares x = withSheet(3);
            for (int number = 0; number <= 9; number++) {
                x.put(0, 2, cell, number);
                int want = 0;
                for (int[] three : THREES) {
                    want += number == 0 || three[cell] == number ? 1 : 0;
                }
                Checks.due("23 place " + cell + " holds " + number, x.seek(0, 3, 0), want);
            }
        }
        OneSumSquares x = withSheet(3, THREES[5]);
        Checks.due("23 all are held", x.seek(0, 3, 8), 1);
        Checks.dueNumbers("26 it", x, x.take(0), 3, THREES[5]);
        x.put(0, 2, 8, 3);
        Checks.due("23 all are held, the last wrong", x.seek(0, 3, 8), 0);
    }

    // All two places with all two numbers, alike ones too.
    private static void seekTwoHeldPlaces() {
        OneSumSquares x = null;
        int calls = 0;
        for (int pair = 0; pair < 81 * 81; pair++) {
            int one = pair % 9;
            int other = pair / 9 % 9;
            int[] held = new int[9];
            held[one] = pair / 81 % 9 + 1;
            held[other] = pair / 729 + 1;
            if (one < other) {
                x = calls++ % 12 == 0 ? new OneSumSquares() : x;
                hold(x, 3, held);
                Checks.due("23 held " + Arrays.toString(held), x.seek(0, 3, 0), threesWith(held));
            }
        }
    }

    private static int threesWith(int[] held) {
        int many = 0;
        for (int[] three : THREES) {
            boolean fits = true;
            for (int i = 0; i < 9; i++) {
                fits &= held[i] == 0 || held[i] == three[i];
            }
            many += fits ? 1 : 0;
        }
        return many;
    }

    // Three places of one that there is are held; those of the model's that have them are due.
    private static void seekThreeHeldOfOrderFour() {
        int[] kinds = {0, 0, 4, 8};
        OneSumSquares x = null;
        for (int i = 0; i < 240; i++) {
            int[] source = flat(FOURS.get((i * 1009 + 17) % 7040));
            int[] held = new int[16];
            held[i % 16] = source[i % 16];
            int second = freeFrom(held, (i * 5 + 3 + i / 16) % 16);
            held[second] = source[second];
            int third = freeFrom(held, (i * 11 + 7) % 16);
            // Some with a number that another place of the source has.
            held[third] = source[i % 3 == 0 ? (third + 1) % 16 : third];
            x = i % 12 == 0 ? new OneSumSquares() : x;
            sought(x, held, kinds[i % 4]);
        }
    }

    private static int freeFrom(int[] held, int place) {
        for (int i = 0; i < held.length; i++) {
            if (held[(place + i) % held.length] == 0) {
                return (place + i) % held.length;
            }
        }
        return 0;
    }

    private static void sought(OneSumSquares x, int[] held, int kinds) {
        List<int[][]> want = new ArrayList<>();
        int forms = 0;
        for (int[][] square : FOURS) {
            int[] numbers = flat(square);
            boolean fits = (Model.kinds(square) & kinds) == kinds;
            for (int i = 0; i < 16; i++) {
                fits &= held[i] == 0 || held[i] == numbers[i];
            }
            if (fits) {
                want.add(square);
                forms += Model.form(square) == 0 ? 1 : 0;
            }
        }
        String what = " with " + Arrays.toString(held) + ", kinds " + kinds;
        hold(x, 4, held);
        Checks.due("23" + what, x.seek(0, 4, kinds), want.size());
        Checks.due("25" + what, x.forms(), forms);
        if (!want.isEmpty()) {
            int q = x.take(want.size() - 1);
            Checks.due("26 last" + what, Arrays.equals(flat(want.get(want.size() - 1)), numbersOf(x, q)) ? 1 : 0, 1);
            x.drop(q);
        }
    }

    private static int[] flat(int[][] square) {
        int n = square.length;
        int[] numbers = new int[n * n];
        for (int i = 0; i < n * n; i++) {
            numbers[i] = square[i / n][i % n];
        }
        return numbers;
    }

    private static int[] numbersOf(OneSumSquares x, int q) {
        int[] numbers = new int[16];
        for (int i = 0; i < 16; i++) {
            numbers[i] = x.at(q, i / 4, i % 4);
        }
        return numbers;
    }

    private static void seekHeldNumbers() {
        for (int n = 1; n <= 4; n++) {
            int most = n * n;
            int[] none = {-1, -2, -most, most + 1, most + 2, 32, 33, 34, 40, 64, 65, 100000, Checks.MIN, Checks.MAX};
            for (int number : none) {
                OneSumSquares x = withSheet(n, number);
                Checks.due("23 order " + n + " with " + number, x.seek(0, n, 0), 0);
                Checks.due("24 none", x.found(), 0);
                Checks.due("25 none", x.forms(), 0);
                Checks.due("30 it counts", x.count(2), 1);
                OneSumSquares y = withSheet(n);
                y.put(0, 2, most - 1, number);
                Checks.due("23 order " + n + " with a last " + number, y.seek(0, n, 8), 0);
            }
        }
        Checks.due("23 order 1 with 1", withSheet(1, 1).seek(0, 1, 12), 1);
        Checks.due("23 order 4 with 16", withSheet(4, 16).seek(0, 4, 8), 24);
        Checks.due("23 order 4 with 1", withSheet(4, 1).seek(0, 4, 8), 24);
    }

    private static void seekHeldTwice() {
        Checks.due("23 side by side", withSheet(3, 2, 2).seek(0, 3, 0), 0);
        OneSumSquares x = withSheet(3);
        x.put(0, 2, 0, 2);
        x.put(0, 2, 8, 2);
        Checks.due("23 at both ends", x.seek(0, 3, 0), 0);
        x.put(0, 2, 8, 8);
        Checks.due("23 once each", x.seek(0, 3, 0), 2);
        OneSumSquares y = withSheet(4, 1, 15, 14, 4, 12, 6, 7, 9, 8, 10, 11, 5, 13, 3, 2, 16);
        Checks.due("23 sixteen, once each", y.seek(0, 4, 0), 1);
        y.put(0, 2, 15, 1);
        Checks.due("23 sixteen, one twice", y.seek(0, 4, 0), 0);
    }

    private static void seekLooksAtTheFirstAlone() {
        OneSumSquares x = new OneSumSquares();
        x.sheet(0, 2, 10);
        x.put(0, 2, 9, 99);
        Checks.due("23 the tenth of order 3", x.seek(0, 3, 0), 8);
        x.put(0, 2, 1, 99);
        Checks.due("23 the second of order 1", x.seek(0, 1, 0), 1);
        x.put(0, 2, 8, 99);
        Checks.due("23 the ninth of order 3", x.seek(0, 3, 0), 0);
        OneSumSquares y = new OneSumSquares();
        y.sheet(0, 2, 17);
        y.put(0, 2, 16, 1);
        y.put(0, 2, 0, 99);
        y.put(0, 2, 1, 99);
        Checks.due("23 two are held, and one behind the 16", y.seek(0, 4, 0), 0);
        Checks.due("23 that was fewer than 3", y.seek(0, 4, 0), Checks.ST);
    }

    // Some found and some not, some with numbers that can't be: all count.
    private static void seekTimes(OneSumSquares x, int times) {
        for (int i = 0; i < times; i++) {
            hold(x, 3, i % 4 == 3 ? 99 : 0);
            x.seek(0, 1 + i % 3, 0);
        }
    }

    private static void seekTwelveTimes() {
        OneSumSquares x = new OneSumSquares();
        seekTimes(x, 11);
        Checks.due("30 eleven", x.count(2), 11);
        Checks.due("23 the twelfth", x.seek(0, 3, 0), 8);
        Checks.due("30 twelve", x.count(2), 12);
        Checks.due("23 the thirteenth", x.seek(0, 3, 0), Checks.ST);
        Checks.due("30 still twelve", x.count(2), 12);
        Checks.due("24 still found", x.found(), 8);
        Checks.refused("23 twelve, any order", y -> seekTimes(y, 12), y -> y.seek(0, 1, 0), Checks.ST);
        Checks.refused("23 twelve, none found", y -> seekTimes(y, 12), y -> y.seek(0, 2, 0), Checks.ST);
    }

    private static void seekRefusalsDoNotCount() {
        OneSumSquares x = withSheet(3);
        for (int i = 0; i < 12; i++) {
            Checks.due("23 no sheet", x.seek(4, 3, 0), Checks.U);
            Checks.due("23 no order", x.seek(0, 5, 0), Checks.O);
            Checks.due("23 missing", x.seek(1, 3, 0), Checks.NULL);
            Checks.due("23 fewer", x.seek(0, 4, 0), Checks.INDEX);
            Checks.due("30 none of these", x.count(2), i);
            Checks.due("23 one more", x.seek(0, 3, 0), 8);
        }
        Checks.due("23 the thirteenth", x.seek(0, 3, 0), Checks.ST);
        Checks.due("29 missing", x.causes(1), 12);
        Checks.due("29 fewer", x.causes(2), 12);
    }

    private static void seekTwelveOrderOfRefusals() {
        Checks.Scene twelve = x -> seekTimes(x, 12);
        Checks.refused("23 twelve, no sheet", twelve, x -> x.seek(-1, 3, 0), Checks.U);
        Checks.refused("23 twelve, no order", twelve, x -> x.seek(0, 5, 0), Checks.O);
        Checks.refused("23 twelve, missing", twelve, x -> x.seek(1, 3, 0), Checks.ST);
        Checks.refused("23 twelve, fewer", twelve, x -> x.seek(0, 4, 0), Checks.ST);
    }

    private static void fewHeld(OneSumSquares x) {
        hold(x, 4, 99, 99);
        x.seek(0, 4, 0);
    }

    private static void seekFewHeldOnce() {
        OneSumSquares x = withSheet(4, 1, 2);
        Checks.due("23 two are held", x.seek(0, 4, 4) >= 0 ? 1 : 0, 1);
        long found = x.found();
        hold(x, 4);
        Checks.due("23 none held", x.seek(0, 4, 0), Checks.ST);
        hold(x, 4, 1);
        Checks.due("23 one held", x.seek(0, 4, 0), Checks.ST);
        hold(x, 4, 1, 2);
        Checks.due("23 two held", x.seek(0, 4, 0), Checks.ST);
        Checks.due("24 found stays", x.found(), found);
        Checks.due("30 once", x.count(2), 1);
        hold(x, 4, 1, 2, 15);
        Checks.due("23 three held", x.seek(0, 4, 0) > 0 ? 1 : 0, 1);
        Checks.due("23 three held, again", x.seek(0, 4, 0) > 0 ? 1 : 0, 1);
        hold(x, 4, 1, 2, 15, 16);
        Checks.due("23 four held", x.seek(0, 4, 0) > 0 ? 1 : 0, 1);
        hold(x, 4);
        Checks.due("23 none held, still", x.seek(0, 4, 0), Checks.ST);
        Checks.due("30 four times", x.count(2), 4);
    }

    private static void seekFewHeldHowever() {
        int[] kinds = {0, 4, 8, 12, -1};
        for (int kind : kinds) {
            Checks.refused("23 kinds " + kind, SeekBounds::fewHeld, x -> x.seek(0, 4, kind), Checks.ST);
        }
        int[][] held = {{}, {1}, {0, 16}, {99, -1}, {1, 1}, {0, 0, Checks.MIN}};
        for (int[] numbers : held) {
            OneSumSquares x = withSheet(4, numbers);
            Checks.due("23 once", x.seek(0, 4, 12), 0);
            Checks.refused("23 with " + Arrays.toString(numbers), y -> {
                fewHeld(y);
                hold(y, 4, numbers);
            }, y -> y.seek(0, 4, 0), Checks.ST);
            hold(x, 4, 99, 99);
            Checks.due("23 another with few", x.seek(0, 4, 0), Checks.ST);
        }
        // Three that can't be are held all the same: such a seek is not one of those with few.
        OneSumSquares x = withSheet(4, 99, 99, 99);
        Checks.due("23 three that can't be", x.seek(0, 4, 0), 0);
        Checks.due("23 again", x.seek(0, 4, 0), 0);
        hold(x, 4, 99, 99);
        Checks.due("23 two, for the first time", x.seek(0, 4, 0), 0);
        Checks.due("23 two, again", x.seek(0, 4, 0), Checks.ST);
        // Smaller orders are free of this, ahead of it and behind it.
        OneSumSquares y = withSheet(4);
        Checks.due("23 order 3, none held", y.seek(0, 3, 0), 8);
        Checks.due("23 order 3, none held, again", y.seek(0, 3, 0), 8);
        Checks.due("23 order 4", y.seek(0, 4, 12), 0);
        Checks.due("23 order 3 behind it", y.seek(0, 3, 0), 8);
    }

    // Two in the first places and a third in each other place; then one in the first place alone.
    private static void seekFewHeldAnywhere() {
        for (int third = 2; third < 16; third++) {
            int[] held = new int[16];
            held[0] = 99;
            held[third] = 99;
            OneSumSquares x = withSheet(4, held);
            Checks.due("23 two held, one at " + third, x.seek(0, 4, 0), 0);
            Checks.due("23 again", x.seek(0, 4, 0), Checks.ST);
            x.put(0, 2, 1, 99);
            Checks.due("23 three held, one at " + third, x.seek(0, 4, 0), 0);
        }
        OneSumSquares x = new OneSumSquares();
        fewHeld(x);
        hold(x, 4, 0, 0, 0, 0, 0, 0, 0, 0, 0, 0, 0, 0, 0, 99, 99, 99);
        Checks.due("23 three held, the last", x.seek(0, 4, 0), 0);
        x.put(0, 2, 14, 0);
        Checks.due("23 two held, the last", x.seek(0, 4, 0), Checks.ST);
    }

    private static void seekFewHeldOrderOfRefusals() {
        Checks.refused("23 few, no sheet", SeekBounds::fewHeld, x -> x.seek(4, 4, 0), Checks.U);
        Checks.refused("23 few, no order", SeekBounds::fewHeld, x -> x.seek(0, 5, 0), Checks.O);
        Checks.blamed("23 few, missing", SeekBounds::fewHeld, x -> x.seek(1, 4, 0), Checks.NULL);
        Checks.Scene fewer = x -> {
            fewHeld(x);
            x.sheet(1, 2, 15);
        };
        Checks.blamed("23 few, fewer", fewer, x -> x.seek(1, 4, 0), Checks.INDEX);
        // What was refused or had a cause was not sought.
        OneSumSquares x = new OneSumSquares();
        x.seek(0, 4, 0);
        x.sheet(0, 2, 15);
        x.seek(0, 4, 0);
        hold(x, 4, 99);
        Checks.due("23 none was sought so", x.seek(0, 4, 0), 0);
    }

    private static void seekFewHeldLast() {
        OneSumSquares x = new OneSumSquares();
        seekTimes(x, 11);
        hold(x, 4, 99);
        Checks.due("23 the twelfth, with few", x.seek(0, 4, 0), 0);
        hold(x, 4, 99, 99, 99);
        Checks.due("23 the thirteenth, with three", x.seek(0, 4, 0), Checks.ST);
        OneSumSquares y = new OneSumSquares();
        seekTimes(y, 12);
        hold(y, 4, 99);
        Checks.due("23 the thirteenth, with few", y.seek(0, 4, 0), Checks.ST);
    }

    private static void seekForgets() {
        OneSumSquares x = withSheet(3);
        x.seek(0, 3, 0);
        int taken = x.take(7);
        hold(x, 3, 8, 1);
        Checks.due("23 one alone", x.seek(0, 3, 0), 1);
        Checks.due("24 the former are forgotten", x.found(), 1);
        Checks.due("26 the first is another", x.at(x.take(0), 0, 0), 8);
        Checks.due("26 no second", x.take(1), Checks.U);
        Checks.due("27 the former last", x.place(taken), Checks.NONE);
        hold(x, 3, 99);
        Checks.due("23 none", x.seek(0, 3, 0), 0);
        Checks.due("24 none", x.found(), 0);
        Checks.due("25 none", x.forms(), 0);
        Checks.due("26 none", x.take(0), Checks.U);
        Checks.due("27 none", x.place(taken), Checks.NONE);
        hold(x, 3);
        Checks.due("23 all again", x.seek(0, 3, 0), 8);
        Checks.due("27 the last again", x.place(taken), 7);
    }

    // ---- promises 24, 25

    private static void foundBounds() {
        Checks.tells("24 before any", Checks::empty, OneSumSquares::found, -1);
        Checks.tells("24 behind one", Checks::used, OneSumSquares::found, 2);
        OneSumSquares x = withSheet(3);
        x.seek(4, 3, 0);
        x.seek(0, 5, 0);
        x.seek(1, 3, 0);
        x.seek(0, 4, 0);
        Checks.due("24 behind refusals and causes alone", x.found(), -1);
        x.seek(0, 2, 0);
        Checks.due("24 none found", x.found(), 0);
        x.seek(0, 3, 0);
        x.seek(0, 5, 0);
        x.seek(1, 3, 0);
        Checks.due("24 a refusal leaves it", x.found(), 8);
    }

    private static void formsBounds() {
        Checks.refused("25 before any", Checks::empty, OneSumSquares::forms, Checks.ST);
        OneSumSquares x = withSheet(3);
        x.seek(0, 5, 0);
        x.seek(1, 3, 0);
        Checks.due("25 behind refusals and causes alone", x.forms(), Checks.ST);
        x.seek(0, 2, 0);
        Checks.due("25 none found", x.forms(), 0);
        int[] firsts = {2, 4, 6, 8};
        for (int first : firsts) {
            hold(x, 3, first);
            Checks.due("23 with " + first, x.seek(0, 3, 0), 2);
            Checks.due("25 the least begins with 2", x.forms(), first == 2 ? 1 : 0);
        }
        hold(x, 3, 2, 9);
        x.seek(0, 3, 0);
        Checks.due("25 one alone, by another turn", x.forms(), 0);
        hold(x, 3, 2, 7);
        x.seek(0, 3, 0);
        Checks.due("25 one alone, the least", x.forms(), 1);
    }

    // ---- promise 26

    private static void takeBounds() {
        int[] any = {-1, 0, 1, Checks.MIN, Checks.MAX};
        for (int k : any) {
            Checks.refused("26 nothing was sought", Checks::empty, x -> x.take(k), Checks.ST);
            Checks.refused("26 none was found", x -> {
                hold(x, 2);
                x.seek(0, 2, 0);
            }, x -> x.take(k), Checks.U);
        }
        Checks.Scene fullNothing = x -> {
            for (int i = 0; i < 24; i++) {
                x.make(1);
            }
        };
        Checks.refused("26 full, nothing was sought", fullNothing, x -> x.take(0), Checks.ST);
        int[] none = {-1, 2, 3, Checks.MIN, Checks.MAX};
        for (int k : none) {
            Checks.refused("26 no " + k, Checks::used, x -> x.take(k), Checks.U);
            Checks.refused("26 full, no " + k, Checks::full, x -> x.take(k), Checks.U);
        }
        Checks.refused("26 full", Checks::full, x -> x.take(0), Checks.FU);
        Checks.refused("26 full, the last", Checks::full, x -> x.take(1), Checks.FU);
    }

    private static void takeInOrder() {
        OneSumSquares x = withSheet(3);
        x.seek(0, 3, 0);
        for (int k = 0; k < 8; k++) {
            Checks.due("26 its number", x.take(k), k);
            Checks.dueNumbers("26 the one of " + k, x, k, 3, THREES[k]);
            Checks.due("27 its place", x.place(k), k);
        }
        Checks.due("26 one again", x.take(7), 8);
        OneSumSquares y = withSheet(1);
        y.seek(0, 1, 0);
        Checks.dueNumbers("26 order 1", y, y.take(0), 1, 1);
        Checks.due("26 no other", y.take(1), Checks.U);
    }

    // 120 by one object, as 512 calls are promised; all of them are held against the model's.
    private static void takeAllOfOrderFour() {
        int[] kinds = {0, 4, 8};
        for (int kind : kinds) {
            List<int[][]> all = new ArrayList<>();
            for (int[][] square : FOURS) {
                if ((Model.kinds(square) & kind) == kind) {
                    all.add(square);
                }
            }
            for (int from = 0; from < all.size(); from += 120) {
                OneSumSquares x = withSheet(4);
                Checks.due("23 all", x.seek(0, 4, kind), all.size());
                for (int k = from; k < all.size() && k < from + 120; k++) {
                    takeOneOfOrderFour(x, k, all.get(k), all.size());
                }
            }
        }
    }

    private static void takeOneOfOrderFour(OneSumSquares x, int k, int[][] want, int found) {
        Checks.due("26 its number", x.take(k), 0);
        Checks.due("27 its place", x.place(0), k);
        Checks.due("26 the digest with the one of " + k, x.digest(), digestOf(want, found));
        x.drop(0);
    }

    // Sheet 0 has 16 numbers, all 0; square 0 has those told.
    private static long digestOf(int[][] square, int found) {
        long h = 83 * 31 + 16;
        for (int i = 0; i < 16; i++) {
            h = 31 * h;
        }
        for (int s = 1; s < 4; s++) {
            h = 31 * h - 1;
        }
        h = 31 * (31 * h) + 4;
        for (int[] row : square) {
            for (int number : row) {
                h = 31 * h + number;
            }
        }
        return 31 * h + found;
    }

    private static void takenOnesStay() {
        OneSumSquares x = withSheet(3);
        x.seek(0, 3, 0);
        int q = x.take(3);
        x.seek(0, 1, 0);
        x.take(0);
        Checks.dueNumbers("26 behind another seek", x, q, 3, THREES[3]);
        x.drop(q);
        x.seek(0, 3, 0);
        Checks.due("26 a dropped one can be taken again", x.take(3), q);
    }

    // ---- promise 27

    private static void placeBounds() {
        int[] any = {-1, 0, 23, 24, Checks.MIN, Checks.MAX};
        for (int q : any) {
            Checks.refused("27 nothing was sought, no square", Checks::empty, x -> x.place(q), Checks.ST);
        }
        Checks.refused("27 nothing was sought", x -> x.make(3), x -> x.place(0), Checks.ST);
        int[] none = {-1, 2, 5, 23, 24, Checks.MIN, Checks.MAX};
        for (int q : none) {
            Checks.refused("27 no square " + q, Checks::used, x -> x.place(q), Checks.U);
        }
        Checks.tells("27 the first", Checks::used, x -> x.place(0), 0);
        Checks.tells("27 none", Checks::used, x -> x.place(1), Checks.NONE);
        Checks.tells("27 none, order 1", Checks::used, x -> x.place(3), Checks.NONE);
        Checks.tells("27 none, order 12", Checks::used, x -> x.place(4), Checks.NONE);
        Checks.tells("27 none was found", x -> {
            hold(x, 2);
            x.make(1);
            x.seek(0, 2, 0);
        }, x -> x.place(0), Checks.NONE);
    }

    private static void placeOfOthers() {
        OneSumSquares x = withSheet(3);
        x.seek(0, 3, 0);
        int three = x.make(3);
        Checks.due("27 made, not taken", x.place(three), 6);
        for (int t = 0; t < 8; t++) {
            int q = x.turn(three, t);
            int place = x.place(q);
            Checks.due("27 a turn has a place", place >= 0 && place < 8 ? 1 : 0, 1);
            Checks.due("27 it is there", x.same(q, x.take(Math.max(0, place))), 0);
        }
        OneSumSquares y = withSheet(3);
        y.seek(0, 3, 0);
        Checks.due("27 one number is another", y.place(Checks.lay(y, 3, 8, 1, 6, 3, 5, 7, 4, 9, 3)), Checks.NONE);
        Checks.due("27 one number is far", y.place(Checks.lay(y, 3, 8, 1, 6, 3, 5, 7, 4, 9, 18)), Checks.NONE);
        Checks.due("27 one number is 0", y.place(Checks.lay(y, 3, 8, 0, 6, 3, 5, 7, 4, 9, 2)), Checks.NONE);
        Checks.due("27 one number is below", y.place(Checks.lay(y, 3, 8, 1 - 16, 6, 3, 5, 7, 4, 9, 2)), Checks.NONE);
        Checks.due("27 the greatest", y.place(Checks.layAll(y, 3, 100000)), Checks.NONE);
        Checks.due("27 the least", y.place(Checks.layAll(y, 3, -100000)), Checks.NONE);
        Checks.due("27 not held so", placeOfOneNotHeld(), Checks.NONE);
    }

    // Numbers that differ by 16, or by what stands in for 0, are others all the same.
    private static void placeOfFarNumbers() {
        OneSumSquares x = withSheet(3);
        x.seek(0, 3, 0);
        for (int i = 0; i < 9; i++) {
            for (int far = -16; far <= 16; far += 32) {
                int[] numbers = THREES[0].clone();
                numbers[i] += far;
                int q = Checks.lay(x, 3, numbers);
                Checks.due("27 order 3, number " + i + " is " + far + " away", x.place(q), Checks.NONE);
                x.drop(q);
            }
        }
        int behind = Checks.lay(x, 4, 1, 1, 1, 1, 1, 1, 1, 2, 7, 6, 9, 5, 1, 4, 3, 8);
        Checks.due("27 of order 4, with one of order 3 at its end", x.place(behind), Checks.NONE);
        int[] durer = {16, 3, 2, 13, 5, 10, 11, 8, 9, 6, 7, 12, 4, 15, 14, 1};
        for (int i = 0; i < 16; i++) {
            OneSumSquares y = withSheet(4, durer);
            Checks.due("23 all are held", y.seek(0, 4, 0), 1);
            Checks.due("27 it", y.place(Checks.lay(y, 4, durer)), 0);
            int[] others = {durer[i] - 16, durer[i] + 16, 0, 17, -1, durer[i] + 256, durer[i] + 65536};
            for (int other : others) {
                int[] numbers = durer.clone();
                numbers[i] = other;
                Checks.due("27 order 4, number " + i + " is " + other, y.place(Checks.lay(y, 4, numbers)), Checks.NONE);
            }
        }
    }

    // Behind a seek that finds fewer, those that were found ahead are none of them.
    private static void placeOfForgottenOnes() {
        for (int first = 2; first <= 8; first += 2) {
            OneSumSquares x = withSheet(3);
            x.seek(0, 3, 0);
            for (int k = 0; k < 8; k++) {
                x.take(k);
            }
            hold(x, 3, first);
            Checks.due("23 fewer", x.seek(0, 3, 0), 2);
            for (int k = 0; k < 8; k++) {
                Checks.due("27 the former " + k, x.place(k), k / 2 == first / 2 - 1 ? k % 2 : Checks.NONE);
            }
        }
    }

    private static int placeOfOneNotHeld() {
        OneSumSquares x = withSheet(3, 2);
        x.seek(0, 3, 0);
        return x.place(x.make(3));
    }
}
