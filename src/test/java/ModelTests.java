import java.util.Arrays;
import java.util.Random;

/** Long runs of calls, told by a fixed seed, on the class and on the Model. */
public final class ModelTests {
    private static final int RUNS = 240, CALLS = 256;
    private static final int[] PARTS = {1, 8, 13, 12, 14, 11, 2, 7, 4, 5, 16, 9, 15, 10, 3, 6};
    private static int wrong = 0;

    public static void main(String[] args) {
        for (int run = 0; run < RUNS && wrong < 20; run++) {
            oneRun(run);
        }
        System.out.println(wrong == 0 ? "all answers are as due" : wrong + " answers are not as due");
        if (wrong != 0) {
            System.exit(1);
        }
    }

    // Behind each call comes digest(), so that a run has 512 calls, as many as the document promises.
    private static void oneRun(int run) {
        Random random = new Random(7919L * run + 1);
        OneSumSquares x = new OneSumSquares();
        Model m = new Model();
        boolean wide = run % 60 == 0;
        for (int call = 0; call < CALLS && wrong < 20; call++) {
            int kind = kind(random);
            int[] a = arguments(random, kind, m, wide);
            due(run, call, kind, a, Calls.on(x, kind, a), m.call(kind, a));
            due(run, call, Calls.DIGEST, a, x.digest(), m.digest());
        }
    }

    private static void due(int run, int call, int kind, int[] a, long got, long want) {
        if (got != want) {
            wrong++;
            System.out.println("run " + run + ", call " + call + ": " + Calls.told(kind, a)
                + " answered " + got + ", due is " + want);
        }
    }

    // Sheets are lost seldom and filled often, so that squares and seeks find numbers.
    private static int kind(Random random) {
        int kind = random.nextInt(Calls.NAMES.length + 14);
        if (kind >= Calls.NAMES.length) {
            kind = kind < Calls.NAMES.length + 10 ? Calls.PUT : Calls.SEEK;
        }
        return kind == Calls.LOSE && random.nextInt(6) > 0 ? Calls.SHEET : kind;
    }

    private static int[] arguments(Random random, int kind, Model m, boolean wide) {
        int[] a = new int[5];
        for (int i = 0; i < 5; i++) {
            a[i] = some(random);
        }
        if (random.nextInt(10) > 0) {
            likely(random, kind, m, a);
        }
        boolean isKnown = a[0] >= 0 && a[0] < 4 && m.sheets[a[0]] != null && m.sheets[a[0]].length >= 16;
        if (kind == Calls.SEEK && a[1] == 4 && !wide && isKnown && m.held(a[0]) < 3) {
            // The model takes long for these.
            a[1] = 3;
        }
        return a;
    }

    private static void likely(Random random, int kind, Model m, int[] a) {
        switch (kind) {
            case Calls.SHEET:
                a[0] = random.nextInt(4);
                a[1] = random.nextInt(3);
                a[2] = random.nextInt(4) == 0 ? 147 + random.nextInt(6) : random.nextInt(3) == 0 ? 16 : a[2] % 40;
                break;
            case Calls.PUT:
                likelyPut(random, m, a);
                break;
            case Calls.COPY:
                a[0] = random.nextInt(4);
                a[1] = random.nextInt(12);
                a[2] = random.nextInt(3) == 0 ? a[0] : random.nextInt(4);
                a[3] = random.nextInt(12);
                a[4] = random.nextInt(12);
                break;
            case Calls.SQUARE:
                a[0] = random.nextInt(4);
                a[1] = random.nextInt(5);
                a[2] = 1 + random.nextInt(random.nextBoolean() ? 4 : 12);
                break;
            case Calls.DROP:
                a[0] = random.nextInt(26) - 1;
                break;
            case Calls.SEEK:
                a[0] = random.nextInt(4);
                a[1] = 1 + random.nextInt(4);
                a[2] = random.nextInt(4) == 0 ? 4 : random.nextInt(16);
                break;
            default:
                break;
        }
    }

    // Half of them are parts of a square of one sum, so that seek() finds some with many numbers held.
    private static void likelyPut(Random random, Model m, int[] a) {
        a[0] = random.nextInt(4);
        a[1] = m.lane[a[0]];
        if (random.nextBoolean()) {
            a[2] = random.nextInt(16);
            a[3] = PARTS[a[2]];
            return;
        }
        a[2] = random.nextInt(4) == 0 ? a[2] : random.nextInt(17);
        a[3] = random.nextInt(4) == 0 ? random.nextInt(220000) - 110000
            : random.nextInt(3) == 0 ? 0 : random.nextInt(17);
    }

    private static int some(Random random) {
        switch (random.nextInt(12)) {
            case 0:
                return -1;
            case 1:
                return random.nextInt(30) - 3;
            case 2:
                return random.nextInt(4) == 0 ? Integer.MIN_VALUE : random.nextInt(2200) - 1100;
            case 3:
                return random.nextInt(4) == 0 ? Integer.MAX_VALUE : 1 << random.nextInt(3);
            default:
                return random.nextInt(8);
        }
    }
}
