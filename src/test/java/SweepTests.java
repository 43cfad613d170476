/**
 * Every call with every choice of arguments at, below and beyond their bounds, on the empty, the used
 * and the full object and on one that has sought twelve times, held against the Model.
 */
public final class SweepTests {
    private static final int MIN = Integer.MIN_VALUE, MAX = Integer.MAX_VALUE;
    // Behind each comes a look at all that can be told; 512 calls are promised.
    private static final int CALLS_OF_ONE = 16;

    private static final int[] SHEET = {MIN, -1, 0, 1, 2, 3, 4, MAX};
    private static final int[] LANE = {MIN, -1, 0, 1, 2, 3, MAX};
    private static final int[] SIZE = {MIN, -1, 0, 1, 149, 150, 151, MAX};
    private static final int[] PLACE = {MIN, -1, 0, 1, 15, 16, 149, 150, MAX};
    private static final int[] NUMBER = {MIN, -100001, -32769, -129, -1, 0, 1, 128, 32768, 100001, MAX};
    private static final int[] MANY = {MIN, -1, 0, 1, 16, 17, 20, 21, MAX};
    private static final int[] ORDER = {MIN, -1, 0, 1, 2, 3, 4, 5, 11, 12, 13, 65536, MAX};
    private static final int[] SQUARE = {MIN, -1, 0, 1, 2, 3, 4, 5, 6, 22, 23, 24, MAX};
    private static final int[] ROW = {MIN, -1, 0, 1, 2, 3, 4, 11, 12, MAX};
    private static final int[] LINE = {MIN, -1, 0, 2, 3, 5, 6, 11, 12, 15, 16, 24, 47, 48, MAX};
    private static final int[] POWER = {MIN, -1, 0, 1, 2, 3, 4, MAX};
    private static final int[] KIND = {MIN, -1, 0, 1, 2, 3, 4, 5, 8, MAX};
    private static final int[] TURN = {MIN, -1, 0, 1, 2, 3, 4, 5, 6, 7, 8, MAX};
    private static final int[] FACTOR = {MIN, -1001, -1000, -999, -1, 0, 1, 999, 1000, 1001, MAX};
    private static final int[] KINDS = {MIN, -1, 0, 4, 8, 12, MAX};
    private static final int[] FOUND = {MIN, -1, 0, 1, 7, 8, MAX};
    private static final int[] CAUSE = {MIN, -1, 0, 1, 2, 3, 4, 5, 6, MAX};
    private static final int[] WHAT = {MIN, -1, 0, 1, 2, 3, MAX};

    private static final int[][][] ARGUMENTS = {
        {SHEET, LANE, SIZE}, {SHEET, LANE, PLACE, NUMBER}, {SHEET, PLACE, SHEET, PLACE, MANY}, {SHEET},
        {SHEET, PLACE, ORDER}, {SQUARE}, {SQUARE, ROW, ROW}, {SQUARE}, {SQUARE, LINE, POWER}, {SQUARE},
        {SQUARE, KIND, POWER}, {SQUARE, TURN}, {SQUARE}, {SQUARE, SQUARE}, {SQUARE}, {ORDER}, {SQUARE, SQUARE},
        {SQUARE, ROW}, {SQUARE}, {SQUARE, FACTOR, FACTOR}, {SQUARE, SQUARE}, {SHEET, ORDER, KINDS}, {}, {},
        {FOUND}, {SQUARE}, {}, {CAUSE}, {WHAT}, {}};

    private static int wrong = 0;
    private static long swept = 0;

    // The class and the model side by side: each call goes to both.
    private static final class Pair {
        final OneSumSquares x = new OneSumSquares();
        final Model model = new Model();
        final String scene;

        Pair(int scene) {
            this.scene = SCENES[scene];
            if (scene > 0) {
                use(scene == 2);
            }
            if (scene == 3) {
                for (int i = 0; i < 12; i++) {
                    call(Calls.SEEK, 0, 3, 0);
                }
            }
        }

        // No sheet has both 16 numbers and fewer than 3 held that can be: the model takes long for such.
        void use(boolean full) {
            for (int lane = 0; lane < 3; lane++) {
                call(Calls.SHEET, lane, lane, lane == 0 ? 16 : lane == 1 ? 20 : 150);
                call(Calls.PUT, lane, lane, lane == 2 ? 15 : 10, 99);
                call(Calls.PUT, lane, lane, 11, lane - 50);
            }
            call(Calls.PUT, 2, 2, 148, 100000);
            call(Calls.PUT, 2, 2, 149, 100001);
            int[] orders = {3, 4, 1, 12, 3, 6};
            for (int n : orders) {
                call(Calls.MAKE, n);
            }
            call(Calls.DROP, 2);
            call(Calls.PLUS, 0, 4);
            call(Calls.SCALE, 3, 694, 1);
            for (int i = 0; i < 24 && full; i++) {
                call(Calls.TURN, i % 6, i % 8);
            }
        }

        void call(int kind, int... a) {
            long got = Calls.on(x, kind, a);
            long want = model.call(kind, a);
            if (got != want) {
                wrong++;
                System.out.println(scene + ": " + Calls.told(kind, a) + " answered " + got + ", due is " + want);
            }
        }

        void compare(int kind, int... a) {
            boolean alike = x.digest() == model.digest() && x.cause() == model.cause
                && x.count(0) == model.count(0) && x.count(2) == model.seeks;
            for (int c = 1; c <= 5; c++) {
                alike &= x.causes(c) == model.causes[c];
            }
            if (!alike) {
                wrong++;
                System.out.println(scene + ": behind " + Calls.told(kind, a) + " all is not as due");
            }
        }
    }

    private static final String[] SCENES = {"empty", "used", "full", "sought"};

    public static void main(String[] args) {
        for (int scene = 0; scene < SCENES.length; scene++) {
            for (int kind = 0; kind < Calls.NAMES.length && wrong < 20; kind++) {
                sweep(scene, kind);
            }
        }
        System.out.println(swept + " calls swept");
        System.out.println(wrong == 0 ? "all answers are as due" : wrong + " answers are not as due");
        if (wrong != 0) {
            System.exit(1);
        }
    }

    private static void sweep(int scene, int kind) {
        int[][] sets = ARGUMENTS[kind];
        int all = 1;
        for (int[] set : sets) {
            all *= set.length;
        }
        Pair pair = null;
        for (int choice = 0; choice < all && wrong < 20; choice++) {
            if (choice % CALLS_OF_ONE == 0) {
                pair = new Pair(scene);
            }
            int[] a = new int[sets.length];
            int left = choice;
            for (int i = 0; i < sets.length; i++) {
                a[i] = sets[i][left % sets[i].length];
                left /= sets[i].length;
            }
            pair.call(kind, a);
            pair.compare(kind, a);
            swept++;
        }
    }
}
