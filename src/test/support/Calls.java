/** The calls of the face by their number, as the document has them in order. */
final class Calls {
    static final int SHEET = 0, PUT = 1, COPY = 2, LOSE = 3, SQUARE = 4, ORDER = 5, AT = 6, DROP = 7, SUM = 8;
    static final int KINDS = 9, ODD = 10, TURN = 11, FORM = 12, SAME = 13, UNLIKE = 14, MAKE = 15, PRODUCT = 16;
    static final int SWAP = 17, TURNED = 18, SCALE = 19, PLUS = 20, SEEK = 21, FOUND = 22, FORMS = 23, TAKE = 24;
    static final int PLACE = 25, CAUSE = 26, CAUSES = 27, COUNT = 28, DIGEST = 29;

    static final String[] NAMES = {"sheet", "put", "copy", "lose", "square", "order", "at", "drop", "sum",
        "kinds", "odd", "turn", "form", "same", "unlike", "make", "product", "swap", "turned", "scale", "plus",
        "seek", "found", "forms", "take", "place", "cause", "causes", "count", "digest"};
    static final int[] ARGUMENTS = {3, 4, 5, 1, 3, 1, 3, 1, 3, 1, 3, 2, 1, 2, 1, 1, 2, 2, 1, 3, 2,
        3, 0, 0, 1, 1, 0, 1, 1, 0};

    private Calls() {
    }

    static String told(int kind, int... a) {
        StringBuilder text = new StringBuilder(NAMES[kind]).append('(');
        for (int i = 0; i < ARGUMENTS[kind]; i++) {
            text.append(i > 0 ? ", " : "").append(a[i]);
        }
        return text.append(')').toString();
    }

    static long on(OneSumSquares x, int kind, int... a) {
        switch (kind) {
            case SHEET: return x.sheet(a[0], a[1], a[2]);
            case PUT: return x.put(a[0], a[1], a[2], a[3]);
            case COPY: return x.copy(a[0], a[1], a[2], a[3], a[4]);
            case LOSE: return x.lose(a[0]);
            case SQUARE: return x.square(a[0], a[1], a[2]);
            case ORDER: return x.order(a[0]);
            case AT: return x.at(a[0], a[1], a[2]);
            case DROP: return x.drop(a[0]);
            case SUM: return x.sum(a[0], a[1], a[2]);
            case KINDS: return x.kinds(a[0]);
            case ODD: return x.odd(a[0], a[1], a[2]);
            case TURN: return x.turn(a[0], a[1]);
            case FORM: return x.form(a[0]);
            case SAME: return x.same(a[0], a[1]);
            case UNLIKE: return x.unlike(a[0]);
            case MAKE: return x.make(a[0]);
            case PRODUCT: return x.product(a[0], a[1]);
            case SWAP: return x.swap(a[0], a[1]);
            case TURNED: return x.turned(a[0]);
            case SCALE: return x.scale(a[0], a[1], a[2]);
            case PLUS: return x.plus(a[0], a[1]);
            case SEEK: return x.seek(a[0], a[1], a[2]);
            case FOUND: return x.found();
            case FORMS: return x.forms();
            case TAKE: return x.take(a[0]);
            case PLACE: return x.place(a[0]);
            case CAUSE: return x.cause();
            case CAUSES: return x.causes(a[0]);
            case COUNT: return x.count(a[0]);
            case DIGEST: return x.digest();
            default: throw new IllegalArgumentException("no call " + kind);
        }
    }
}
