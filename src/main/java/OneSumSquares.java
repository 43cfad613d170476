import java.util.Arrays;

/**
 * Squares of one sum, as ../shared/DOC.md tells them. Numbers behind the word "promise" are that
 * document's.
 */
public final class OneSumSquares {
    public static final int NONE = -1, UNKNOWN = -101, OUTSIDE = -102, STATE = -103, FULL = -104;

    private static final int NULL = 1, INDEX = 2, SIZE = 3, CAST = 4, GREAT = 5;
    private static final int MOST_CAUSE = 5, CAUSE_BASE = -10;

    private static final int SHEETS = 4, SHEET_ROOM = 150;
    private static final int BYTE_LANE = 0, SHORT_LANE = 1, INT_LANE = 2;

    private static final int SQUARES = 24, MOST_ORDER = 12, SQUARE_ROOM = 144;
    private static final int MOST_NUMBER = 100000, NO_NUMBER = 1000000;
    private static final int MOST_POWER = 3, MOST_FACTOR = 1000;
    private static final int TURNS = 8;

    private static final int EVEN = 1, WHOLE = 2, ROUND = 4, PAIRED = 8, TWICE = 16, THRICE = 32, PLAIN = 64;

    private static final int SOUGHT_ORDER = 4, SOUGHT_CELLS = 16, SOUGHT_ROOM = 8192, FIRST_ROOM = 32;
    private static final int MOST_SEEKS = 12, FEW_HELD = 3;
    private static final long SIGN = 1L << 63;

    // A plan is a row of steps of four: a place, and the places that with it make up a known sum
    // (-1: none). A place with no such others is tried with every number.
    private static final int STEP = 4;
    private static final int[] PLAN_1 = {0, -1, -1, -1};
    private static final int[] PLAN_2 = {0, -1, -1, -1, 1, 0, -1, -1, 2, 0, -1, -1, 3, 1, -1, -1};
    private static final int[] PLAN_3 = {
        0, -1, -1, -1, 1, -1, -1, -1, 2, 0, 1, -1,
        3, -1, -1, -1, 6, 0, 3, -1, 4, 2, 6, -1,
        5, 3, 4, -1, 7, 1, 4, -1, 8, 6, 7, -1};
    // Of order 4 the corners sum as a line does, too (both slants less the middle four), so that
    // seven places are free and all others follow; the first row comes first, as the order asks.
    private static final int[] PLAN_4 = {
        0, -1, -1, -1, 1, -1, -1, -1, 2, -1, -1, -1, 3, 0, 1, 2,
        12, -1, -1, -1, 15, 0, 3, 12, 6, -1, -1, -1, 9, 3, 6, 12,
        5, -1, -1, -1, 10, 0, 5, 15, 13, 1, 5, 9, 14, 2, 6, 10,
        4, -1, -1, -1, 8, 0, 4, 12, 7, 4, 5, 6, 11, 8, 9, 10};

    // What stands above and below, left and right, for each letter of the rule of orders 6, 10.
    private static final int[] LETTER_L = {4, 1, 2, 3};
    private static final int[] LETTER_U = {1, 4, 2, 3};
    private static final int[] LETTER_X = {1, 4, 3, 2};

    private final Sheet[] sheets = new Sheet[SHEETS];
    private final Square[] squares = new Square[SQUARES];
    private final Square draft = new Square();
    private final Square half = new Square();
    private final int[] seen = new int[SQUARE_ROOM + 1];
    private final Finder finder = new Finder();
    private final int[] blamed = new int[MOST_CAUSE + 1];
    private int latest = 0;
    private int seeks = 0;
    private boolean wideSought = false;

    public OneSumSquares() {
        for (int s = 0; s < SHEETS; s++) {
            sheets[s] = new Sheet();
        }
        for (int q = 0; q < SQUARES; q++) {
            squares[q] = new Square();
        }
    }

    // ---- sheets

    public int sheet(int s, int lane, int n) {
        if (!isSheet(s)) {
            return UNKNOWN;
        }
        if (!isLane(lane) || n > SHEET_ROOM) {
            return OUTSIDE;
        }
        if (n < 0) {
            return blame(SIZE);
        }
        sheets[s].renew(lane, n);
        return n;
    }

    public int put(int s, int lane, int i, int v) {
        if (!isSheet(s)) {
            return UNKNOWN;
        }
        if (!isLane(lane)) {
            return OUTSIDE;
        }
        Sheet to = sheets[s];
        if (to.isMissing()) {
            return blame(NULL);
        }
        if (to.lane != lane) {
            return blame(CAST);
        }
        if (!to.has(i, 1)) {
            return blame(INDEX);
        }
        to.numbers[i] = castTo(lane, v);
        return 1;
    }

    public int copy(int s, int i, int t, int j, int n) {
        if (!isSheet(s) || !isSheet(t)) {
            return UNKNOWN;
        }
        Sheet from = sheets[s];
        Sheet to = sheets[t];
        if (from.isMissing() || to.isMissing()) {
            return blame(NULL);
        }
        if (from.lane != to.lane) {
            return blame(CAST);
        }
        if (!from.has(i, n) || !to.has(j, n)) {
            return blame(INDEX);
        }
        System.arraycopy(from.numbers, i, to.numbers, j, n);
        return 1;
    }

    public int lose(int s) {
        if (!isSheet(s)) {
            return UNKNOWN;
        }
        Sheet lost = sheets[s];
        if (lost.isMissing()) {
            return blame(NULL);
        }
        int had = lost.size;
        lost.size = NONE;
        return had;
    }

    // ---- squares

    public int square(int s, int i, int n) {
        if (!isSheet(s)) {
            return UNKNOWN;
        }
        if (n < 1 || n > MOST_ORDER) {
            return OUTSIDE;
        }
        Sheet from = sheets[s];
        if (from.isMissing()) {
            return blame(NULL);
        }
        if (!from.has(i, n * n)) {
            return blame(INDEX);
        }
        draft.clear(n);
        System.arraycopy(from.numbers, i, draft.numbers, 0, n * n);
        return keepDraft();
    }

    public int order(int q) {
        Square known = known(q);
        return known == null ? UNKNOWN : known.order;
    }

    public int at(int q, int i, int j) {
        Square known = known(q);
        if (known == null || !known.isRow(i) || !known.isRow(j)) {
            return NO_NUMBER;
        }
        return known.number(i, j);
    }

    public int drop(int q) {
        Square known = known(q);
        if (known == null) {
            return UNKNOWN;
        }
        int had = known.order;
        known.order = 0;
        return had;
    }

    public long sum(int q, int line, int power) {
        Square known = known(q);
        if (known == null || !known.isLine(line) || !isPower(power)) {
            return 0L;
        }
        return known.lineSum(line, power);
    }

    public int kinds(int q) {
        Square known = known(q);
        return known == null ? UNKNOWN : known.kindBits(seen);
    }

    public int odd(int q, int kind, int power) {
        Square known = known(q);
        if (known == null) {
            return UNKNOWN;
        }
        if ((kind != EVEN && kind != WHOLE && kind != ROUND) || !isPower(power)) {
            return OUTSIDE;
        }
        return known.oddLine(kind, power);
    }

    // ---- turns

    public int turn(int q, int t) {
        Square known = known(q);
        if (known == null) {
            return UNKNOWN;
        }
        if (t < 0 || t >= TURNS) {
            return OUTSIDE;
        }
        draft.becomeTurn(known, t);
        return keepDraft();
    }

    public int form(int q) {
        Square known = known(q);
        return known == null ? UNKNOWN : known.leastTurn();
    }

    public int same(int q, int r) {
        Square one = known(q);
        Square other = known(r);
        if (one == null || other == null) {
            return UNKNOWN;
        }
        if (one.order != other.order) {
            return NONE;
        }
        for (int t = 0; t < TURNS; t++) {
            if (one.compareTurns(t, other, 0) == 0) {
                return t;
            }
        }
        return NONE;
    }

    public int unlike(int q) {
        Square known = known(q);
        return known == null ? UNKNOWN : known.unlikeTurns();
    }

    // ---- making

    public int make(int n) {
        if (n < 1 || n > MOST_ORDER || n == 2) {
            return OUTSIDE;
        }
        if (n % 2 == 1) {
            draft.becomeOdd(n);
        } else if (n % 4 == 0) {
            draft.becomeFourfold(n);
        } else {
            half.becomeOdd(n / 2);
            draft.becomeLettered(half);
        }
        return keepDraft();
    }

    public int product(int q, int r) {
        Square outer = known(q);
        Square inner = known(r);
        if (outer == null || inner == null) {
            return UNKNOWN;
        }
        if (outer.order * inner.order > MOST_ORDER) {
            return OUTSIDE;
        }
        draft.becomeProduct(outer, inner);
        return keepDraft();
    }

    public int swap(int q, int i) {
        Square known = known(q);
        if (known == null) {
            return UNKNOWN;
        }
        if (!known.isRow(i)) {
            return OUTSIDE;
        }
        draft.becomeSwapped(known, i);
        return keepDraft();
    }

    public int turned(int q) {
        Square known = known(q);
        if (known == null) {
            return UNKNOWN;
        }
        draft.becomeScaled(known, -1, known.leastAndGreatest());
        return keepDraft();
    }

    public int scale(int q, int a, int b) {
        Square known = known(q);
        if (known == null) {
            return UNKNOWN;
        }
        if (!isFactor(a) || !isFactor(b)) {
            return OUTSIDE;
        }
        draft.becomeScaled(known, a, b);
        return keepDraft();
    }

    public int plus(int q, int r) {
        Square one = known(q);
        Square other = known(r);
        if (one == null || other == null) {
            return UNKNOWN;
        }
        if (one.order != other.order) {
            return OUTSIDE;
        }
        draft.becomeTogether(one, other);
        return keepDraft();
    }

    // ---- seeking

    public int seek(int s, int n, int kinds) {
        if (!isSheet(s)) {
            return UNKNOWN;
        }
        if (n < 1 || n > SOUGHT_ORDER) {
            return OUTSIDE;
        }
        if (seeks >= MOST_SEEKS) {
            return STATE;
        }
        Sheet holder = sheets[s];
        if (holder.isMissing()) {
            return blame(NULL);
        }
        if (!holder.has(0, n * n)) {
            return blame(INDEX);
        }
        boolean wide = n == SOUGHT_ORDER && holder.heldOf(n * n) < FEW_HELD;
        if (wide && wideSought) {
            return STATE;
        }
        seeks++;
        wideSought = wideSought || wide;
        finder.search(holder, n, kinds & (ROUND | PAIRED));
        return finder.size;
    }

    public int found() {
        return finder.size;
    }

    public int forms() {
        return finder.isFresh() ? STATE : finder.leastOnes;
    }

    public int take(int k) {
        if (finder.isFresh()) {
            return STATE;
        }
        if (k < 0 || k >= finder.size) {
            return UNKNOWN;
        }
        finder.unpack(k, draft);
        return keepDraft();
    }

    public int place(int q) {
        if (finder.isFresh()) {
            return STATE;
        }
        Square known = known(q);
        return known == null ? UNKNOWN : finder.indexOf(known);
    }

    // ---- what is told

    public int cause() {
        return latest;
    }

    public int causes(int c) {
        return c < 1 || c > MOST_CAUSE ? OUTSIDE : blamed[c];
    }

    public int count(int what) {
        switch (what) {
            case 0:
                return squaresThere();
            case 1:
                return sheetsThere();
            case 2:
                return seeks;
            default:
                return OUTSIDE;
        }
    }

    public long digest() {
        long h = 83L;
        for (int s = 0; s < SHEETS; s++) {
            // The size of a missing sheet is -1, which is what the document wants said of it.
            h = mix(h, sheets[s].size);
            h = mixAll(h, sheets[s].numbers, sheets[s].size);
        }
        for (int q = 0; q < SQUARES; q++) {
            int n = squares[q].order;
            if (n > 0) {
                h = mix(mix(h, q), n);
                h = mixAll(h, squares[q].numbers, n * n);
            }
        }
        return mix(h, finder.size);
    }

    private static long mix(long h, int number) {
        return 31L * h + number;
    }

    private static long mixAll(long h, int[] numbers, int size) {
        long mixed = h;
        for (int i = 0; i < size && i < numbers.length; i++) {
            mixed = mix(mixed, numbers[i]);
        }
        return mixed;
    }

    private int squaresThere() {
        int there = 0;
        for (int q = 0; q < SQUARES; q++) {
            if (squares[q].order > 0) {
                there++;
            }
        }
        return there;
    }

    private int sheetsThere() {
        int there = 0;
        for (int s = 0; s < SHEETS; s++) {
            if (!sheets[s].isMissing()) {
                there++;
            }
        }
        return there;
    }

    private int blame(int why) {
        latest = why;
        if (why >= 1 && why <= MOST_CAUSE) {
            blamed[why]++;
        }
        return CAUSE_BASE - why;
    }

    private Square known(int q) {
        if (q < 0 || q >= SQUARES || squares[q].order < 1) {
            return null;
        }
        return squares[q];
    }

    // Every new square comes through here, so that GREAT is told ahead of FULL for all of them, and
    // nothing stands half made.
    private int keepDraft() {
        if (draft.isGreat()) {
            return blame(GREAT);
        }
        for (int q = 0; q < SQUARES; q++) {
            if (squares[q].order < 1) {
                squares[q].become(draft);
                return q;
            }
        }
        return FULL;
    }

    private static boolean isSheet(int s) {
        return s >= 0 && s < SHEETS;
    }

    private static boolean isLane(int lane) {
        return lane >= BYTE_LANE && lane <= INT_LANE;
    }

    private static boolean isPower(int power) {
        return power >= 1 && power <= MOST_POWER;
    }

    private static boolean isFactor(int number) {
        return number >= -MOST_FACTOR && number <= MOST_FACTOR;
    }

    private static int castTo(int lane, int v) {
        if (lane == BYTE_LANE) {
            return (byte) v;
        }
        return lane == SHORT_LANE ? (short) v : v;
    }

    /** A row of numbers of one lane; its size is NONE while it is MISSING. */
    private static final class Sheet {
        final int[] numbers = new int[SHEET_ROOM];
        int lane = BYTE_LANE;
        int size = NONE;

        boolean isMissing() {
            return size < 0;
        }

        void renew(int newLane, int newSize) {
            lane = newLane;
            size = newSize;
            Arrays.fill(numbers, 0);
        }

        // Subtracts, as the sum of two given numbers could wrap around.
        boolean has(int from, int many) {
            return from >= 0 && many >= 0 && from <= size && many <= size - from;
        }

        int heldOf(int many) {
            int held = 0;
            for (int i = 0; i < many && i < numbers.length; i++) {
                if (numbers[i] != 0) {
                    held++;
                }
            }
            return held;
        }
    }

    /** A square; its order is 0 while there is none. */
    private static final class Square {
        final int[] numbers = new int[SQUARE_ROOM];
        int order = 0;

        int number(int i, int j) {
            return numbers[i * order + j];
        }

        boolean isRow(int i) {
            return i >= 0 && i < order;
        }

        boolean isLine(int line) {
            return line >= 0 && line < 4 * order;
        }

        boolean isGreat() {
            int cells = order * order;
            for (int i = 0; i < cells; i++) {
                if (numbers[i] > MOST_NUMBER || numbers[i] < -MOST_NUMBER) {
                    return true;
                }
            }
            return false;
        }

        int leastAndGreatest() {
            int least = numbers[0];
            int greatest = numbers[0];
            int cells = order * order;
            for (int i = 1; i < cells; i++) {
                least = Math.min(least, numbers[i]);
                greatest = Math.max(greatest, numbers[i]);
            }
            return least + greatest;
        }

        // ---- lines and kinds

        // Where step i of a line stands in the row of numbers.
        int cellOf(int line, int i) {
            int n = order;
            if (line < n) {
                return line * n + i;
            }
            if (line < 2 * n) {
                return i * n + line - n;
            }
            int j = line < 3 * n ? line - 2 * n + i : line - 3 * n - i;
            if (j >= n) {
                j -= n;
            } else if (j < 0) {
                j += n;
            }
            return i * n + j;
        }

        long lineSum(int line, int power) {
            long total = 0L;
            for (int i = 0; i < order; i++) {
                long number = numbers[cellOf(line, i)];
                long raised = number;
                for (int p = 1; p < power; p++) {
                    raised *= number;
                }
                total += raised;
            }
            return total;
        }

        boolean asks(int kind, int line) {
            if (line < 2 * order || kind == ROUND) {
                return true;
            }
            return kind == WHOLE && (line == 2 * order || line == 4 * order - 1);
        }

        int oddLine(int kind, int power) {
            long due = lineSum(0, power);
            int lines = 4 * order;
            for (int line = 1; line < lines; line++) {
                if (asks(kind, line) && lineSum(line, power) != due) {
                    return line;
                }
            }
            return NONE;
        }

        boolean isAll(int kind, int power) {
            return oddLine(kind, power) == NONE;
        }

        boolean isPaired() {
            int last = order * order - 1;
            int due = numbers[0] + numbers[last];
            for (int i = 1; i <= last; i++) {
                if (numbers[i] + numbers[last - i] != due) {
                    return false;
                }
            }
            return true;
        }

        boolean isPlain(int[] seen) {
            int cells = order * order;
            Arrays.fill(seen, 0);
            for (int i = 0; i < cells; i++) {
                int number = numbers[i];
                if (number < 1 || number > cells || seen[number] != 0) {
                    return false;
                }
                seen[number] = 1;
            }
            return true;
        }

        int kindBits(int[] seen) {
            int bits = isPlain(seen) ? PLAIN : 0;
            if (!isAll(EVEN, 1)) {
                return bits;
            }
            bits |= EVEN;
            if (!isAll(WHOLE, 1)) {
                return bits;
            }
            bits |= WHOLE;
            if (isAll(ROUND, 1)) {
                bits |= ROUND;
            }
            if (isPaired()) {
                bits |= PAIRED;
            }
            if (isAll(WHOLE, 2)) {
                bits |= isAll(WHOLE, 3) ? TWICE | THRICE : TWICE;
            }
            return bits;
        }

        // ---- turns

        // What stands at (i, j) of what a turn makes.
        int afterTurn(int t, int i, int j) {
            int last = order - 1;
            int row = i;
            int column = j;
            switch (t & 3) {
                case 1:
                    row = last - j;
                    column = i;
                    break;
                case 2:
                    row = last - i;
                    column = last - j;
                    break;
                case 3:
                    row = j;
                    column = last - i;
                    break;
                default:
                    break;
            }
            return t < 4 ? numbers[row * order + column] : numbers[column * order + row];
        }

        // Below 0, 0 or above 0, as this one by a turn is less than, like or more than another one of
        // the same order by a turn of its own.
        int compareTurns(int t, Square other, int u) {
            for (int i = 0; i < order; i++) {
                for (int j = 0; j < order; j++) {
                    int mine = afterTurn(t, i, j);
                    int theirs = other.afterTurn(u, i, j);
                    if (mine != theirs) {
                        return mine < theirs ? -1 : 1;
                    }
                }
            }
            return 0;
        }

        int leastTurn() {
            int least = 0;
            for (int t = 1; t < TURNS; t++) {
                if (compareTurns(t, this, least) < 0) {
                    least = t;
                }
            }
            return least;
        }

        int unlikeTurns() {
            int unlike = 0;
            for (int t = 0; t < TURNS; t++) {
                if (!comesEarlier(t)) {
                    unlike++;
                }
            }
            return unlike;
        }

        boolean comesEarlier(int t) {
            for (int u = 0; u < t; u++) {
                if (compareTurns(t, this, u) == 0) {
                    return true;
                }
            }
            return false;
        }

        // ---- making

        void clear(int n) {
            order = n;
            Arrays.fill(numbers, 0);
        }

        void become(Square from) {
            order = from.order;
            System.arraycopy(from.numbers, 0, numbers, 0, numbers.length);
        }

        void becomeTurn(Square from, int t) {
            int n = from.order;
            clear(n);
            for (int i = 0; i < n; i++) {
                for (int j = 0; j < n; j++) {
                    numbers[i * n + j] = from.afterTurn(t, i, j);
                }
            }
        }

        void becomeSwapped(Square from, int row) {
            int n = from.order;
            int mirror = n - 1 - row;
            clear(n);
            for (int i = 0; i < n; i++) {
                int oldRow = i == row || i == mirror ? n - 1 - i : i;
                for (int j = 0; j < n; j++) {
                    int oldColumn = j == row || j == mirror ? n - 1 - j : j;
                    numbers[i * n + j] = from.number(oldRow, oldColumn);
                }
            }
        }

        void becomeScaled(Square from, int a, int b) {
            clear(from.order);
            int cells = order * order;
            for (int i = 0; i < cells; i++) {
                numbers[i] = from.numbers[i] * a + b;
            }
        }

        void becomeTogether(Square one, Square other) {
            clear(one.order);
            int cells = order * order;
            for (int i = 0; i < cells; i++) {
                numbers[i] = one.numbers[i] + other.numbers[i];
            }
        }

        void becomeProduct(Square outer, Square inner) {
            int m = inner.order;
            clear(outer.order * m);
            for (int i = 0; i < outer.order; i++) {
                for (int j = 0; j < outer.order; j++) {
                    layBlock(m * i, m * j, inner, m * m * (outer.number(i, j) - 1));
                }
            }
        }

        void layBlock(int top, int left, Square inner, int more) {
            for (int k = 0; k < inner.order; k++) {
                for (int l = 0; l < inner.order; l++) {
                    numbers[(top + k) * order + left + l] = inner.number(k, l) + more;
                }
            }
        }

        void becomeOdd(int n) {
            clear(n);
            int row = 0;
            int column = n / 2;
            int cells = n * n;
            for (int number = 1; number <= cells; number++) {
                numbers[row * n + column] = number;
                int up = row == 0 ? n - 1 : row - 1;
                int right = column == n - 1 ? 0 : column + 1;
                if (numbers[up * n + right] == 0) {
                    row = up;
                    column = right;
                } else {
                    row = row == n - 1 ? 0 : row + 1;
                }
            }
        }

        void becomeFourfold(int n) {
            clear(n);
            for (int i = 0; i < n; i++) {
                for (int j = 0; j < n; j++) {
                    int number = i * n + j + 1;
                    boolean across = i % 4 == j % 4 || i % 4 + j % 4 == 3;
                    numbers[i * n + j] = across ? n * n + 1 - number : number;
                }
            }
        }

        void becomeLettered(Square small) {
            int m = small.order;
            clear(2 * m);
            for (int i = 0; i < m; i++) {
                for (int j = 0; j < m; j++) {
                    layLetter(2 * i, 2 * j, letterAt(m, i, j), 4 * small.number(i, j) - 4);
                }
            }
        }

        static int[] letterAt(int m, int i, int j) {
            int middle = (m - 1) / 2;
            int row = i;
            if (j == middle && i == middle) {
                row = middle + 1;
            } else if (j == middle && i == middle + 1) {
                row = middle;
            }
            if (row <= middle) {
                return LETTER_L;
            }
            return row == middle + 1 ? LETTER_U : LETTER_X;
        }

        void layLetter(int top, int left, int[] letter, int more) {
            int above = top * order + left;
            int below = above + order;
            numbers[above] = more + letter[0];
            numbers[above + 1] = more + letter[1];
            numbers[below] = more + letter[2];
            numbers[below + 1] = more + letter[3];
        }
    }

    /**
     * What was sought: the plain squares found, each as one long with four bits a number, so that
     * all of order 4 find room; kept in their order. Its size is NONE before any seek.
     */
    private static final class Finder {
        final Square trial = new Square();
        final int[] held = new int[SOUGHT_CELLS];
        long[] keys = new long[FIRST_ROOM];
        int size = NONE;
        int leastOnes = 0;
        int order = 0;
        int cells = 0;
        int lineTotal = 0;
        int asked = 0;
        int used = 0;
        int[] plan = PLAN_1;

        boolean isFresh() {
            return size < 0;
        }

        void search(Sheet holder, int n, int kindsAsked) {
            size = 0;
            leastOnes = 0;
            order = n;
            cells = n * n;
            lineTotal = n * (cells + 1) / 2;
            asked = kindsAsked;
            used = 0;
            plan = planOf(n);
            trial.clear(n);
            if (hold(holder)) {
                layFrom(this, 0);
            }
        }

        static int[] planOf(int n) {
            switch (n) {
                case 1:
                    return PLAN_1;
                case 2:
                    return PLAN_2;
                case 3:
                    return PLAN_3;
                default:
                    return PLAN_4;
            }
        }

        // False where no square can have the numbers held.
        boolean hold(Sheet holder) {
            for (int i = 0; i < cells && i < held.length; i++) {
                int number = holder.numbers[i];
                held[i] = number;
                if (number != 0) {
                    if (!isFree(number)) {
                        return false;
                    }
                    used |= 1 << number;
                }
            }
            return true;
        }

        boolean isFree(int number) {
            return number >= 1 && number <= cells && (used & (1 << number)) == 0;
        }

        // A held number counts as used from the start, so that no other place takes it.
        boolean fits(int cell, int number) {
            return held[cell] == 0 ? isFree(number) : held[cell] == number;
        }

        private static void layFrom(Finder f, int step) {
            if (step >= f.cells) {
                f.keepTrial();
                return;
            }
            int cell = f.plan[STEP * step];
            int low = 1;
            int high = f.cells;
            if (f.plan[STEP * step + 1] >= 0) {
                low = f.rest(STEP * step);
                high = low;
            }
            for (int number = low; number <= high; number++) {
                if (f.fits(cell, number)) {
                    int before = f.used;
                    f.used |= 1 << number;
                    f.trial.numbers[cell] = number;
                    layFrom(f, step + 1);
                    f.used = before;
                }
            }
        }

        int rest(int from) {
            int left = lineTotal;
            for (int i = 1; i < order; i++) {
                left -= trial.numbers[plan[from + i]];
            }
            return left;
        }

        // The plan leaves some lines unlooked at, so the whole square is looked at once more.
        void keepTrial() {
            int lines = (asked & ROUND) != 0 ? ROUND : WHOLE;
            boolean unpaired = (asked & PAIRED) != 0 && !trial.isPaired();
            if (unpaired || trial.oddLine(lines, 1) != NONE || !hasRoom()) {
                return;
            }
            long key = packed(trial);
            int at = size;
            // Only squares of one first row come out of their order: the way down is short.
            for (; at > 0 && keys[at - 1] > key; at--) {
                keys[at] = keys[at - 1];
            }
            keys[at] = key;
            size++;
            if (trial.leastTurn() == 0) {
                leastOnes++;
            }
        }

        boolean hasRoom() {
            if (size >= keys.length && keys.length < SOUGHT_ROOM) {
                keys = Arrays.copyOf(keys, 2 * keys.length);
            }
            return size < keys.length;
        }

        // The sign is turned, so that a first number above 8 comes behind the lesser ones.
        static long packed(Square square) {
            long key = 0L;
            int cells = square.order * square.order;
            for (int i = 0; i < cells; i++) {
                key = (key << 4) | (square.numbers[i] - 1);
            }
            return key ^ SIGN;
        }

        void unpack(int k, Square into) {
            into.clear(order);
            long key = keys[k] ^ SIGN;
            for (int i = cells - 1; i >= 0; i--) {
                into.numbers[i] = (int) (key & 15L) + 1;
                key >>>= 4;
            }
        }

        int indexOf(Square square) {
            if (square.order != order || !isPackable(square)) {
                return NONE;
            }
            long key = packed(square);
            int low = 0;
            int high = size - 1;
            for (int tries = 0; low <= high && tries < SOUGHT_ROOM; tries++) {
                int middle = (low + high) / 2;
                if (keys[middle] == key) {
                    return middle;
                }
                if (keys[middle] < key) {
                    low = middle + 1;
                } else {
                    high = middle - 1;
                }
            }
            return NONE;
        }

        boolean isPackable(Square square) {
            for (int i = 0; i < cells; i++) {
                if (square.numbers[i] < 1 || square.numbers[i] > cells) {
                    return false;
                }
            }
            return true;
        }
    }
}
