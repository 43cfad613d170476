import java.util.Arrays;

/** What the tests of bounds share: answers that are due, and calls that must change nothing. */
final class Checks {
    static final int NONE = -1, U = -101, O = -102, ST = -103, FU = -104;
    static final int NULL = -11, INDEX = -12, SIZE = -13, CAST = -14, GREAT = -15;
    static final int MIN = Integer.MIN_VALUE, MAX = Integer.MAX_VALUE;
    static final int NO_NUMBER = 1000000;

    private static final int PORTRAIT = 98;
    private static int wrong = 0;

    interface Scene {
        void lay(OneSumSquares x);
    }

    interface Call {
        long on(OneSumSquares x);
    }

    private Checks() {
    }

    static void due(String what, long got, long want) {
        if (got != want) {
            wrong++;
            System.out.println(what + " answered " + got + ", due is " + want);
        }
    }

    static void end() {
        System.out.println(wrong == 0 ? "all answers are as due" : wrong + " answers are not as due");
        if (wrong != 0) {
            System.exit(1);
        }
    }

    // ---- scenes

    static void empty(OneSumSquares x) {
    }

    // Sheets 0 (16 bytes), 1 (20 shorts), 2 (150 ints), 3 missing; squares 0, 1, 3, 4 of orders 3, 4,
    // 1, 12, and 2 gone; two of order 3 were found; the latest cause is NULL.
    static void used(OneSumSquares x) {
        x.sheet(0, 0, 16);
        x.sheet(1, 1, 20);
        x.sheet(2, 2, 150);
        for (int i = 0; i < 16; i++) {
            x.put(0, 0, i, i == 0 ? 8 : 0);
            x.put(1, 1, i, 30000 - i);
            x.put(2, 2, i, 90000 + i);
        }
        int[] edges = {100000, -100000, 100001, -100001, MIN, MAX};
        for (int i = 0; i < edges.length; i++) {
            x.put(2, 2, 140 + i, edges[i]);
        }
        int[] orders = {3, 4, 5, 1, 12};
        for (int n : orders) {
            x.make(n);
        }
        x.drop(2);
        x.seek(0, 3, 0);
        x.sheet(2, 2, -1);
        x.lose(3);
    }

    // As used(), and all 24 squares are there: 2 and 5 on are of order 1.
    static void full(OneSumSquares x) {
        used(x);
        for (int i = 0; i < 24; i++) {
            x.make(1);
        }
    }

    // A square of the numbers told, by way of sheet 3, which is missing behind it.
    static int lay(OneSumSquares x, int n, int... numbers) {
        x.sheet(3, 2, n * n);
        for (int i = 0; i < n * n; i++) {
            x.put(3, 2, i, numbers[i]);
        }
        int q = x.square(3, 0, n);
        x.lose(3);
        return q;
    }

    static int layAll(OneSumSquares x, int n, int number) {
        int[] numbers = new int[n * n];
        Arrays.fill(numbers, number);
        return lay(x, n, numbers);
    }

    static int[] upTo(int most) {
        int[] numbers = new int[most];
        for (int i = 0; i < most; i++) {
            numbers[i] = i + 1;
        }
        return numbers;
    }

    static void dueNumbers(String what, OneSumSquares x, int q, int n, int... want) {
        due(what + ": order", x.order(q), n);
        for (int i = 0; i < n * n; i++) {
            due(what + ": at " + i / n + ", " + i % n, x.at(q, i / n, i % n), want[i]);
        }
    }

    // ---- calls that change nothing

    static void refused(String what, Scene scene, Call call, long want) {
        changesNothing(what, scene, call, want, 0);
    }

    static void tells(String what, Scene scene, Call call, long want) {
        changesNothing(what, scene, call, want, 0);
    }

    static void blamed(String what, Scene scene, Call call, long want) {
        changesNothing(what, scene, call, want, (int) (-10 - want));
    }

    // The object is held against a twin that never had the call.
    private static void changesNothing(String what, Scene scene, Call call, long want, int cause) {
        OneSumSquares x = new OneSumSquares();
        OneSumSquares twin = new OneSumSquares();
        scene.lay(x);
        scene.lay(twin);
        due(what, call.on(x), want);
        long[] got = portrait(x);
        long[] due = portrait(twin);
        if (cause > 0) {
            due[0] = cause;
            due[cause]++;
        }
        for (int i = 0; i < PORTRAIT; i++) {
            due(what + ", behind it: part " + i, got[i], due[i]);
        }
    }

    // All that can be seen of an object, some of it only by calls that change it: with what is laid
    // ahead, 512 calls are enough.
    private static long[] portrait(OneSumSquares x) {
        long[] seen = new long[PORTRAIT];
        int k = 0;
        seen[k++] = x.cause();
        for (int c = 1; c <= 5; c++) {
            seen[k++] = x.causes(c);
        }
        seen[k++] = x.digest();
        for (int what = 0; what < 3; what++) {
            seen[k++] = x.count(what);
        }
        seen[k++] = x.found();
        seen[k++] = x.forms();
        for (int i = 0; i < 12; i++) {
            seen[k++] = x.put(i / 3, i % 3, -1, 0);
        }
        for (int i = 0; i < 25; i++) {
            seen[k++] = x.make(1);
        }
        for (int q = 0; q < 24; q++) {
            seen[k++] = x.drop(q);
        }
        for (int i = 0; i < 10; i++) {
            seen[k++] = x.take(i);
        }
        seen[k++] = x.digest();
        // Two places held by what can be in no square: quick, but of order 4 with fewer than 3 held.
        x.sheet(0, 2, 16);
        x.put(0, 2, 0, 99);
        x.put(0, 2, 1, 99);
        seen[k++] = x.seek(0, 4, 0);
        for (int i = 0; i < 13; i++) {
            seen[k++] = x.seek(0, 2, 0);
        }
        return seen;
    }
}
