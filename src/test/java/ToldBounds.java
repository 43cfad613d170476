/** Promises 28 to 31, and what the document says of refusals and causes: a test for each sentence. */
public final class ToldBounds {
    public static void main(String[] args) {
        causeOfEachCall();
        causeStays();
        causesBounds();
        countBounds();
        countThem();
        digestOfNothing();
        digestOfSheets();
        digestOfSquares();
        digestOfFound();
        digestWraps();
        constants();
        Checks.end();
    }

    // ---- promises 28, 29

    private static void caused(String what, int cause, Checks.Call call) {
        OneSumSquares x = new OneSumSquares();
        Checks.used(x);
        int before = x.causes(cause);
        Checks.due(what, call.on(x), -10 - cause);
        Checks.due("28 " + what, x.cause(), cause);
        Checks.due("29 " + what, x.causes(cause), before + 1);
        Checks.due(what + " again", call.on(x), -10 - cause);
        Checks.due("29 " + what + " again", x.causes(cause), before + 2);
    }

    private static void causeOfEachCall() {
        caused("put, missing", 1, x -> x.put(3, 0, 0, 0));
        caused("copy, missing", 1, x -> x.copy(3, 0, 0, 0, 0));
        caused("copy, to missing", 1, x -> x.copy(0, 0, 3, 0, 0));
        caused("lose, missing", 1, x -> x.lose(3));
        caused("square, missing", 1, x -> x.square(3, 0, 1));
        caused("seek, missing", 1, x -> x.seek(3, 1, 0));
        caused("put, place", 2, x -> x.put(0, 0, 16, 0));
        caused("copy, place", 2, x -> x.copy(0, 0, 0, 0, 17));
        caused("square, place", 2, x -> x.square(0, 0, 5));
        caused("seek, place", 2, x -> {
            x.sheet(0, 0, 15);
            return x.seek(0, 4, 0);
        });
        caused("sheet, size", 3, x -> x.sheet(0, 0, -1));
        caused("put, lane", 4, x -> x.put(0, 1, 0, 0));
        caused("copy, lane", 4, x -> x.copy(0, 0, 1, 0, 0));
        caused("square, great", 5, x -> x.square(2, 142, 1));
        caused("product, great", 5, x -> x.product(x.square(2, 140, 1), 1));
        caused("scale, great", 5, x -> x.scale(4, 1000, 0));
        caused("plus, great", 5, x -> {
            int q = x.square(2, 140, 1);
            return x.plus(q, q);
        });
    }

    // Behind a cause neither a refusal nor what goes well changes what cause() tells.
    private static void causeStays() {
        OneSumSquares x = new OneSumSquares();
        Checks.due("28 before any", x.cause(), 0);
        x.make(2);
        x.order(0);
        x.forms();
        Checks.due("28 refusals alone", x.cause(), 0);
        x.sheet(0, 0, -1);
        x.sheet(0, 0, 1);
        x.sheet(4, 0, -1);
        x.sheet(0, 3, -1);
        x.make(0);
        x.take(0);
        x.at(0, 0, 0);
        Checks.due("28 it stays", x.cause(), 3);
        x.lose(1);
        Checks.due("28 another one", x.cause(), 1);
        x.sheet(0, 0, -1);
        Checks.due("28 the former again", x.cause(), 3);
        int[] want = {1, 0, 2, 0, 0};
        for (int c = 1; c <= 5; c++) {
            Checks.due("29 causes " + c, x.causes(c), want[c - 1]);
        }
    }

    private static void causesBounds() {
        int[] none = {0, 6, 7, -1, -11, Checks.MIN, Checks.MAX};
        for (int c : none) {
            Checks.refused("29 no cause " + c, Checks::used, x -> x.causes(c), Checks.O);
            Checks.refused("29 no cause " + c, Checks::empty, x -> x.causes(c), Checks.O);
        }
        int[] used = {1, 0, 1, 0, 0};
        for (int i = 1; i <= 5; i++) {
            int c = i;
            Checks.tells("29 causes " + c, Checks::used, x -> x.causes(c), used[c - 1]);
            Checks.tells("29 causes " + c + " at first", Checks::empty, x -> x.causes(c), 0);
        }
        Checks.tells("28 cause", Checks::used, OneSumSquares::cause, 1);
        Checks.tells("28 cause at first", Checks::empty, OneSumSquares::cause, 0);
    }

    // ---- promise 30

    private static void countBounds() {
        int[] none = {-1, 3, 4, Checks.MIN, Checks.MAX};
        for (int what : none) {
            Checks.refused("30 no count " + what, Checks::used, x -> x.count(what), Checks.O);
        }
        int[] used = {4, 3, 1};
        int[] full = {24, 3, 1};
        for (int i = 0; i < 3; i++) {
            int what = i;
            Checks.tells("30 count " + what, Checks::used, x -> x.count(what), used[what]);
            Checks.tells("30 count " + what + ", full", Checks::full, x -> x.count(what), full[what]);
            Checks.tells("30 count " + what + ", empty", Checks::empty, x -> x.count(what), 0);
        }
    }

    private static void countThem() {
        OneSumSquares x = new OneSumSquares();
        for (int s = 0; s < 4; s++) {
            x.sheet(s, 0, 0);
            x.sheet(s, 1, 0);
            Checks.due("30 sheets, of none too", x.count(1), s + 1);
        }
        x.lose(2);
        Checks.due("30 sheets, one lost", x.count(1), 3);
        x.make(1);
        x.make(1);
        x.drop(0);
        Checks.due("30 squares, one gone", x.count(0), 1);
        x.drop(1);
        Checks.due("30 squares, all gone", x.count(0), 0);
    }

    // ---- promise 31

    private static long digestOf(long... numbers) {
        long h = 83;
        for (long number : numbers) {
            h = 31 * h + number;
        }
        return h;
    }

    private static void digestOfNothing() {
        Checks.tells("31 nothing", Checks::empty, OneSumSquares::digest, digestOf(-1, -1, -1, -1, -1));
        OneSumSquares x = new OneSumSquares();
        Checks.used(x);
        long once = x.digest();
        Checks.due("31 again", x.digest(), once);
    }

    private static void digestOfSheets() {
        OneSumSquares x = new OneSumSquares();
        x.sheet(1, 0, 0);
        Checks.due("31 a sheet of none", x.digest(), digestOf(-1, 0, -1, -1, -1));
        x.sheet(1, 2, 0);
        Checks.due("31 of another lane", x.digest(), digestOf(-1, 0, -1, -1, -1));
        x.sheet(3, 2, 2);
        x.put(3, 2, 0, Checks.MAX);
        x.put(3, 2, 1, Checks.MIN);
        Checks.due("31 the last sheet", x.digest(), digestOf(-1, 0, -1, 2, Checks.MAX, Checks.MIN, -1));
        x.sheet(0, 0, 1);
        x.put(0, 0, 0, 255);
        Checks.due("31 the first sheet", x.digest(), digestOf(1, -1, 0, -1, 2, Checks.MAX, Checks.MIN, -1));
        x.lose(3);
        x.lose(0);
        x.lose(1);
        Checks.due("31 all are lost", x.digest(), digestOf(-1, -1, -1, -1, -1));
    }

    private static void digestOfSquares() {
        OneSumSquares x = new OneSumSquares();
        x.make(1);
        x.make(3);
        Checks.due("31 two squares", x.digest(),
            digestOf(-1, -1, -1, -1, 0, 1, 1, 1, 3, 8, 1, 6, 3, 5, 7, 4, 9, 2, -1));
        x.drop(0);
        Checks.due("31 by its number", x.digest(), digestOf(-1, -1, -1, -1, 1, 3, 8, 1, 6, 3, 5, 7, 4, 9, 2, -1));
        x.drop(1);
        Checks.due("31 none is left", x.digest(), digestOf(-1, -1, -1, -1, -1));
        for (int q = 0; q < 24; q++) {
            x.make(1);
        }
        for (int q = 0; q < 23; q++) {
            x.drop(q);
        }
        Checks.due("31 the last of 24", x.digest(), digestOf(-1, -1, -1, -1, 23, 1, 1, -1));
    }

    private static void digestOfFound() {
        OneSumSquares x = new OneSumSquares();
        x.sheet(0, 0, 4);
        x.seek(0, 2, 0);
        Checks.due("31 none found", x.digest(), digestOf(4, 0, 0, 0, 0, -1, -1, -1, 0));
        x.seek(0, 1, 0);
        Checks.due("31 one found", x.digest(), digestOf(4, 0, 0, 0, 0, -1, -1, -1, 1));
    }

    // Some 1900 numbers are mixed: h wraps many times over.
    private static void digestWraps() {
        OneSumSquares x = new OneSumSquares();
        long h = 83;
        x.sheet(0, 2, 150);
        h = 31 * h + 150;
        for (int i = 0; i < 150; i++) {
            x.put(0, 2, i, 100000 - i);
            h = 31 * h + 100000 - i;
        }
        h = ((h * 31 - 1) * 31 - 1) * 31 - 1;
        for (int q = 0; q < 24; q++) {
            x.square(0, q % 7, 12);
            h = (31 * h + q) * 31 + 12;
            for (int i = 0; i < 144; i++) {
                h = 31 * h + 100000 - i - q % 7;
            }
        }
        Checks.due("31 it wraps", x.digest(), 31 * h - 1);
    }

    private static void constants() {
        Checks.due("NONE", OneSumSquares.NONE, -1);
        Checks.due("UNKNOWN", OneSumSquares.UNKNOWN, -101);
        Checks.due("OUTSIDE", OneSumSquares.OUTSIDE, -102);
        Checks.due("STATE", OneSumSquares.STATE, -103);
        Checks.due("FULL", OneSumSquares.FULL, -104);
    }
}
