/** Promises 1 to 5: each sentence with a bound has a test of its own. */
public final class SheetBounds {
    private static final int[] NO_SHEETS = {-1, 4, 5, Checks.MIN, Checks.MAX};
    private static final int[] NO_LANES = {-1, 3, 4, Checks.MIN, Checks.MAX};

    public static void main(String[] args) {
        newObjectHasNothing();
        newObjectsShareNothing();
        sheetNumbers();
        sheetLanes();
        sheetSizes();
        sheetIsNew();
        sheetOrderOfRefusals();
        putPlaces();
        putIntoNothing();
        putCasts();
        putAnotherLane();
        putRefusals();
        putOrderOfRefusals();
        copyBounds();
        copyWrapAround();
        copyAsIfTakenAhead();
        copyOfNone();
        copyAnotherLane();
        copyRefusals();
        loseBounds();
        Checks.end();
    }

    // ---- promise 1

    private static void newObjectHasNothing() {
        OneSumSquares x = new OneSumSquares();
        for (int s = 0; s < 4; s++) {
            for (int lane = 0; lane < 3; lane++) {
                Checks.due("1 put into a missing sheet", x.put(s, lane, 0, 0), Checks.NULL);
            }
            Checks.due("1 a missing sheet is lost", x.lose(s), Checks.NULL);
        }
        for (int q = -1; q <= 24; q++) {
            Checks.due("1 no square", x.order(q), Checks.U);
        }
        OneSumSquares y = new OneSumSquares();
        Checks.due("1 cause", y.cause(), 0);
        for (int c = 1; c <= 5; c++) {
            Checks.due("1 causes", y.causes(c), 0);
        }
        for (int what = 0; what < 3; what++) {
            Checks.due("1 count", y.count(what), 0);
        }
        Checks.due("1 found", y.found(), -1);
        Checks.due("1 forms", y.forms(), Checks.ST);
        Checks.due("1 take", y.take(0), Checks.ST);
        Checks.due("1 place", y.place(0), Checks.ST);
        Checks.due("1 the first number", y.make(1), 0);
    }

    private static void newObjectsShareNothing() {
        OneSumSquares x = new OneSumSquares();
        OneSumSquares y = new OneSumSquares();
        long before = y.digest();
        Checks.full(x);
        Checks.due("1 another object", y.digest(), before);
        Checks.due("1 another object's causes", y.causes(1), 0);
        Checks.due("1 another object's squares", y.make(3), 0);
    }

    // ---- promise 2

    private static void sheetNumbers() {
        OneSumSquares x = new OneSumSquares();
        for (int s = 0; s < 4; s++) {
            Checks.due("2 sheet " + s, x.sheet(s, 0, 1), 1);
            Checks.due("2 sheets there", x.count(1), s + 1);
        }
        for (int s : NO_SHEETS) {
            Checks.refused("2 no sheet " + s, Checks::empty, y -> y.sheet(s, 0, 1), Checks.U);
            Checks.refused("2 no sheet " + s, Checks::used, y -> y.sheet(s, 0, 1), Checks.U);
        }
    }

    private static void sheetLanes() {
        for (int lane = 0; lane < 3; lane++) {
            OneSumSquares x = new OneSumSquares();
            Checks.due("2 lane " + lane, x.sheet(0, lane, 1), 1);
            for (int other = 0; other < 3; other++) {
                Checks.due("2 it has lane " + lane, x.put(0, other, 0, 0), other == lane ? 1 : Checks.CAST);
            }
        }
        for (int lane : NO_LANES) {
            Checks.refused("2 no lane " + lane, Checks::used, x -> x.sheet(0, lane, 1), Checks.O);
            Checks.refused("2 no lane " + lane, Checks::used, x -> x.sheet(3, lane, 1), Checks.O);
        }
    }

    private static void sheetSizes() {
        int[] sizes = {0, 1, 149, 150};
        for (int n : sizes) {
            OneSumSquares x = new OneSumSquares();
            Checks.due("2 size " + n, x.sheet(3, 1, n), n);
            Checks.due("2 last of " + n, x.put(3, 1, n - 1, 5), n == 0 ? Checks.INDEX : 1);
            Checks.due("2 beyond " + n, x.put(3, 1, n, 5), Checks.INDEX);
            Checks.due("2 lost " + n, x.lose(3), n);
        }
        int[] above = {151, 152, Checks.MAX};
        for (int n : above) {
            Checks.refused("2 size " + n, Checks::used, x -> x.sheet(1, 1, n), Checks.O);
            Checks.refused("2 size " + n, Checks::empty, x -> x.sheet(1, 1, n), Checks.O);
        }
        int[] below = {-1, -2, Checks.MIN};
        for (int n : below) {
            Checks.blamed("2 size " + n, Checks::used, x -> x.sheet(1, 1, n), Checks.SIZE);
            Checks.blamed("2 size " + n, Checks::used, x -> x.sheet(3, 0, n), Checks.SIZE);
        }
    }

    private static void sheetIsNew() {
        OneSumSquares x = new OneSumSquares();
        OneSumSquares fresh = new OneSumSquares();
        x.sheet(0, 0, 150);
        for (int i = 0; i < 150; i++) {
            x.put(0, 0, i, 7);
        }
        Checks.due("2 a smaller one", x.sheet(0, 2, 1), 1);
        Checks.due("2 a greater one again", x.sheet(0, 2, 150), 150);
        fresh.sheet(0, 2, 150);
        Checks.due("2 all are 0", x.digest(), fresh.digest());
        x.put(0, 2, 3, 9);
        x.lose(0);
        x.sheet(0, 2, 150);
        Checks.due("2 all are 0 behind lose()", x.digest(), fresh.digest());
        x.put(0, 2, 3, 9);
        x.sheet(0, 2, 150);
        Checks.due("2 all are 0 in one of the same size", x.digest(), fresh.digest());
    }

    private static void sheetOrderOfRefusals() {
        Checks.refused("2 s, lane, n above", Checks::used, x -> x.sheet(4, 3, 151), Checks.U);
        Checks.refused("2 s, n below", Checks::used, x -> x.sheet(-1, 0, -1), Checks.U);
        Checks.refused("2 lane, n below", Checks::used, x -> x.sheet(0, 3, -1), Checks.O);
        Checks.refused("2 lane, n above", Checks::used, x -> x.sheet(0, -1, 151), Checks.O);
    }

    // ---- promise 3

    private static void putPlaces() {
        int[] none = {-1, 16, 17, 149, 150, Checks.MIN, Checks.MAX};
        for (int i : none) {
            Checks.blamed("3 no place " + i, Checks::used, x -> x.put(0, 0, i, 1), Checks.INDEX);
        }
        OneSumSquares x = new OneSumSquares();
        x.sheet(0, 2, 150);
        Checks.due("3 first", x.put(0, 2, 0, 5), 1);
        Checks.due("3 last", x.put(0, 2, 149, 6), 1);
        Checks.due("3 beyond", x.put(0, 2, 150, 7), Checks.INDEX);
        Checks.dueNumbers("3 first is there", x, x.square(0, 0, 1), 1, 5);
        Checks.dueNumbers("3 last is there", x, x.square(0, 149, 1), 1, 6);
        Checks.dueNumbers("3 another is 0", x, x.square(0, 148, 1), 1, 0);
    }

    private static void putIntoNothing() {
        Checks.Scene none = x -> x.sheet(0, 2, 0);
        Checks.blamed("3 the first of none", none, x -> x.put(0, 2, 0, 1), Checks.INDEX);
        Checks.blamed("3 below the first of none", none, x -> x.put(0, 2, -1, 1), Checks.INDEX);
    }

    // Ints beyond 100000 come into no square, so digest() tells what stands in the sheet.
    private static void putCasts() {
        int[][] casts = {
            {0, 127, 127}, {0, 128, -128}, {0, -128, -128}, {0, -129, 127}, {0, 255, -1}, {0, 256, 0},
            {0, Checks.MAX, -1}, {0, Checks.MIN, 0},
            {1, 32767, 32767}, {1, 32768, -32768}, {1, -32768, -32768}, {1, -32769, 32767}, {1, 65535, -1},
            {1, 65536, 0}, {1, Checks.MAX, -1}, {1, Checks.MIN, 0},
            {2, 100001, 100001}, {2, Checks.MAX, Checks.MAX}, {2, Checks.MIN, Checks.MIN}, {2, -1, -1}};
        for (int[] cast : casts) {
            OneSumSquares x = new OneSumSquares();
            x.sheet(0, cast[0], 1);
            Checks.due("3 put", x.put(0, cast[0], 0, cast[1]), 1);
            long h = (83L * 31 + 1) * 31 + cast[2];
            for (int i = 0; i < 4; i++) {
                h = 31 * h - 1;
            }
            Checks.due("3 " + cast[1] + " in lane " + cast[0], x.digest(), h);
        }
    }

    private static void putAnotherLane() {
        for (int s = 0; s < 3; s++) {
            for (int lane = 0; lane < 3; lane++) {
                int sheet = s;
                int other = lane;
                if (other != sheet) {
                    Checks.blamed("3 lane " + other, Checks::used, x -> x.put(sheet, other, 0, 1), Checks.CAST);
                }
            }
        }
    }

    private static void putRefusals() {
        for (int s : NO_SHEETS) {
            Checks.refused("3 no sheet " + s, Checks::used, x -> x.put(s, 0, 0, 1), Checks.U);
        }
        for (int lane : NO_LANES) {
            Checks.refused("3 no lane " + lane, Checks::used, x -> x.put(0, lane, 0, 1), Checks.O);
        }
        Checks.blamed("3 missing", Checks::used, x -> x.put(3, 0, 0, 1), Checks.NULL);
        Checks.blamed("3 missing, all of them", Checks::empty, x -> x.put(0, 0, 0, 1), Checks.NULL);
    }

    private static void putOrderOfRefusals() {
        Checks.refused("3 s, lane", Checks::used, x -> x.put(4, 3, -1, 1), Checks.U);
        Checks.refused("3 lane, missing", Checks::used, x -> x.put(3, 3, -1, 1), Checks.O);
        Checks.refused("3 lane, place", Checks::used, x -> x.put(0, 3, -1, 1), Checks.O);
        Checks.blamed("3 missing, place", Checks::used, x -> x.put(3, 0, -1, 1), Checks.NULL);
        Checks.blamed("3 another lane, place", Checks::used, x -> x.put(0, 1, 16, 1), Checks.CAST);
    }

    // ---- promise 4

    // Sheets of 5 and 3 shorts.
    private static void two(OneSumSquares x) {
        x.sheet(0, 1, 5);
        x.sheet(1, 1, 3);
        for (int i = 0; i < 5; i++) {
            x.put(0, 1, i, 10 + i);
            x.put(1, 1, i, 20 + i);
        }
    }

    private static void copied(String what, int[] call, int s, int... want) {
        OneSumSquares x = new OneSumSquares();
        two(x);
        Checks.due("4 " + what, x.copy(call[0], call[1], call[2], call[3], call[4]), 1);
        for (int i = 0; i < want.length; i++) {
            Checks.due("4 " + what + ": number " + i, x.at(x.square(s, i, 1), 0, 0), want[i]);
        }
    }

    private static void copyBounds() {
        copied("up to both ends", new int[] {0, 2, 1, 0, 3}, 1, 12, 13, 14);
        copied("one at the ends", new int[] {0, 4, 1, 2, 1}, 1, 20, 21, 14);
        copied("all of it, onto itself", new int[] {0, 0, 0, 0, 5}, 0, 10, 11, 12, 13, 14);
        copied("the source stays", new int[] {0, 0, 1, 0, 3}, 0, 10, 11, 12, 13, 14);
        int[][] beyond = {{0, 3, 1, 0, 3}, {0, 0, 1, 1, 3}, {0, 0, 1, 0, 4}, {1, 0, 0, 0, 4}, {0, 5, 1, 0, 1},
            {0, 0, 1, 3, 1}, {0, -1, 1, 0, 1}, {0, 0, 1, -1, 1}, {0, -1, 1, 0, 0}, {0, 0, 1, -1, 0},
            {0, 0, 1, 0, -1}, {0, 1, 1, 1, -1}, {0, 0, 0, 1, 5}, {0, 1, 0, 0, 5}};
        for (int[] a : beyond) {
            Checks.blamed("4 " + Calls.told(Calls.COPY, a), SheetBounds::two,
                x -> x.copy(a[0], a[1], a[2], a[3], a[4]), Checks.INDEX);
        }
    }

    private static void copyWrapAround() {
        int max = Checks.MAX;
        int min = Checks.MIN;
        int[][] far = {{0, max, 1, 0, 1}, {0, 0, 1, max, 1}, {0, 1, 1, 0, max}, {0, 0, 1, 1, max},
            {0, max, 1, max, max}, {0, min, 1, 0, 1}, {0, 0, 1, min, 1}, {0, 0, 1, 0, min},
            {0, min, 1, min, min}, {0, max, 1, 0, min}, {0, min, 1, 0, max}, {0, max, 1, 0, 0}, {0, 0, 1, max, 0},
            {0, 2, 1, 2, max - 1}, {0, 5, 1, 3, max}, {0, 5, 1, 3, min}, {0, 1, 1, 1, max - 2}};
        for (int[] a : far) {
            Checks.blamed("4 " + Calls.told(Calls.COPY, a), SheetBounds::two,
                x -> x.copy(a[0], a[1], a[2], a[3], a[4]), Checks.INDEX);
        }
    }

    private static void copyAsIfTakenAhead() {
        copied("up by one", new int[] {0, 0, 0, 1, 4}, 0, 10, 10, 11, 12, 13);
        copied("down by one", new int[] {0, 1, 0, 0, 4}, 0, 11, 12, 13, 14, 14);
        copied("up by two", new int[] {0, 0, 0, 2, 3}, 0, 10, 11, 10, 11, 12);
        copied("down by two", new int[] {0, 2, 0, 0, 3}, 0, 12, 13, 14, 13, 14);
    }

    private static void copyOfNone() {
        Checks.tells("4 none", SheetBounds::two, x -> x.copy(0, 0, 1, 0, 0), 1);
        Checks.tells("4 none from the end", SheetBounds::two, x -> x.copy(0, 5, 1, 0, 0), 1);
        Checks.tells("4 none to the end", SheetBounds::two, x -> x.copy(0, 0, 1, 3, 0), 1);
        Checks.blamed("4 none from beyond", SheetBounds::two, x -> x.copy(0, 6, 1, 0, 0), Checks.INDEX);
        Checks.blamed("4 none to beyond", SheetBounds::two, x -> x.copy(0, 0, 1, 4, 0), Checks.INDEX);
        Checks.Scene bare = x -> {
            x.sheet(0, 0, 0);
            x.sheet(1, 0, 0);
        };
        Checks.tells("4 none of none", bare, x -> x.copy(0, 0, 1, 0, 0), 1);
        Checks.tells("4 none of none, onto itself", bare, x -> x.copy(0, 0, 0, 0, 0), 1);
        Checks.blamed("4 one of none", bare, x -> x.copy(0, 0, 1, 0, 1), Checks.INDEX);
        Checks.blamed("4 none of none, from beyond", bare, x -> x.copy(0, 1, 1, 0, 0), Checks.INDEX);
    }

    private static void copyAnotherLane() {
        for (int s = 0; s < 3; s++) {
            for (int t = 0; t < 3; t++) {
                int from = s;
                int to = t;
                if (from != to) {
                    Checks.blamed("4 lanes " + from + to, Checks::used, x -> x.copy(from, 0, to, 0, 1), Checks.CAST);
                    Checks.blamed("4 lanes " + from + to, Checks::used, x -> x.copy(from, 0, to, 0, 0), Checks.CAST);
                    Checks.blamed("4 ahead of place", Checks::used, x -> x.copy(from, -1, to, 999, -1), Checks.CAST);
                }
            }
        }
    }

    private static void copyRefusals() {
        for (int s : NO_SHEETS) {
            Checks.refused("4 no sheet " + s, Checks::used, x -> x.copy(s, 0, 0, 0, 1), Checks.U);
            Checks.refused("4 to no sheet " + s, Checks::used, x -> x.copy(0, 0, s, 0, 1), Checks.U);
            Checks.refused("4 missing, no sheet", Checks::used, x -> x.copy(3, -1, s, -1, -1), Checks.U);
        }
        Checks.blamed("4 s missing", Checks::used, x -> x.copy(3, 0, 0, 0, 0), Checks.NULL);
        Checks.blamed("4 t missing", Checks::used, x -> x.copy(0, 0, 3, 0, 0), Checks.NULL);
        Checks.blamed("4 both are missing: told once", Checks::used, x -> x.copy(3, 0, 3, 0, 0), Checks.NULL);
        Checks.blamed("4 missing, ahead of place", Checks::used, x -> x.copy(0, -1, 3, 0, -1), Checks.NULL);
    }

    // ---- promise 5

    private static void loseBounds() {
        OneSumSquares x = new OneSumSquares();
        int[] sizes = {0, 1, 149, 150};
        for (int s = 0; s < 4; s++) {
            x.sheet(s, 0, sizes[s]);
        }
        for (int s = 0; s < 4; s++) {
            Checks.due("5 lose " + s, x.lose(s), sizes[s]);
            Checks.due("5 left", x.count(1), 3 - s);
            Checks.due("5 it is missing", x.put(s, 0, 0, 0), Checks.NULL);
        }
        Checks.due("5 as at first", x.digest(), new OneSumSquares().digest());
        Checks.blamed("5 missing", Checks::used, y -> y.lose(3), Checks.NULL);
        Checks.blamed("5 missing, all of them", Checks::empty, y -> y.lose(0), Checks.NULL);
        for (int s : NO_SHEETS) {
            Checks.refused("5 no sheet " + s, Checks::used, y -> y.lose(s), Checks.U);
        }
    }
}
