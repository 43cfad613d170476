import java.util.ArrayList;
import java.util.Arrays;
import java.util.HashSet;
import java.util.List;
import java.util.Set;
import java.util.TreeMap;

/**
 * What the document asks, written on its own and with other means than the class (matrices, sets, a
 * search row by row). Calls are told by the numbers of Calls.
 */
final class Model {
    private static final int U = -101, O = -102, ST = -103, FU = -104;

    final int[][] sheets = new int[4][];
    final int[] lane = new int[4];
    final TreeMap<Integer, int[][]> squares = new TreeMap<>();
    final int[] causes = new int[6];
    int cause = 0;
    int seeks = 0;
    boolean wide = false;
    List<int[][]> found = null;

    long call(int kind, int... a) {
        switch (kind) {
            case Calls.SHEET: return sheet(a[0], a[1], a[2]);
            case Calls.PUT: return put(a[0], a[1], a[2], a[3]);
            case Calls.COPY: return copy(a[0], a[1], a[2], a[3], a[4]);
            case Calls.LOSE: return lose(a[0]);
            case Calls.SQUARE: return square(a[0], a[1], a[2]);
            case Calls.DROP: return drop(a[0]);
            case Calls.MAKE: return make(a[0]);
            case Calls.SEEK: return seek(a[0], a[1], a[2]);
            case Calls.FOUND: return found == null ? -1 : found.size();
            case Calls.FORMS: return found == null ? ST : found.stream().filter(m -> form(m) == 0).count();
            case Calls.TAKE: return take(a[0]);
            case Calls.PLACE: return place(a[0]);
            case Calls.CAUSE: return cause;
            case Calls.CAUSES: return a[0] >= 1 && a[0] <= 5 ? causes[a[0]] : O;
            case Calls.COUNT: return count(a[0]);
            case Calls.DIGEST: return digest();
            default: return onSquare(kind, a);
        }
    }

    int blame(int c) {
        cause = c;
        causes[c]++;
        return -10 - c;
    }

    int held(int s) {
        int held = 0;
        for (int i = 0; i < 16; i++) {
            held += sheets[s][i] != 0 ? 1 : 0;
        }
        return held;
    }

    int sheet(int s, int l, int n) {
        if (s < 0 || s > 3) return U;
        if (l < 0 || l > 2 || n > 150) return O;
        if (n < 0) return blame(3);
        sheets[s] = new int[n];
        lane[s] = l;
        return n;
    }

    int put(int s, int l, int i, int v) {
        if (s < 0 || s > 3) return U;
        if (l < 0 || l > 2) return O;
        if (sheets[s] == null) return blame(1);
        if (lane[s] != l) return blame(4);
        if (i < 0 || i >= sheets[s].length) return blame(2);
        int bits = l == 0 ? 24 : l == 1 ? 16 : 0;
        sheets[s][i] = v << bits >> bits;
        return 1;
    }

    int copy(int s, int i, int t, int j, int n) {
        if (s < 0 || s > 3 || t < 0 || t > 3) return U;
        if (sheets[s] == null || sheets[t] == null) return blame(1);
        if (lane[s] != lane[t]) return blame(4);
        if (i < 0 || j < 0 || n < 0 || (long) i + n > sheets[s].length || (long) j + n > sheets[t].length) return blame(2);
        int[] taken = Arrays.copyOfRange(sheets[s], i, i + n);
        for (int k = 0; k < n; k++) {
            sheets[t][j + k] = taken[k];
        }
        return 1;
    }

    int lose(int s) {
        if (s < 0 || s > 3) return U;
        if (sheets[s] == null) return blame(1);
        int had = sheets[s].length;
        sheets[s] = null;
        return had;
    }

    int square(int s, int i, int n) {
        if (s < 0 || s > 3) return U;
        if (n < 1 || n > 12) return O;
        if (sheets[s] == null) return blame(1);
        if (i < 0 || (long) i + n * n > sheets[s].length) return blame(2);
        int[][] m = new int[n][n];
        for (int k = 0; k < n * n; k++) {
            m[k / n][k % n] = sheets[s][i + k];
        }
        return keep(m);
    }

    int keep(int[][] m) {
        for (int[] row : m) {
            for (int v : row) {
                if (v > 100000 || v < -100000) return blame(5);
            }
        }
        for (int q = 0; q < 24; q++) {
            if (!squares.containsKey(q)) {
                squares.put(q, m);
                return q;
            }
        }
        return FU;
    }

    int drop(int q) {
        int[][] m = squares.remove(q);
        return m == null ? U : m.length;
    }

    int take(int k) {
        if (found == null) return ST;
        return k < 0 || k >= found.size() ? U : keep(found.get(k));
    }

    int count(int what) {
        if (what == 0) return squares.size();
        if (what == 1) return (int) Arrays.stream(sheets).filter(s -> s != null).count();
        return what == 2 ? seeks : O;
    }

    int place(int q) {
        if (found == null) return ST;
        if (!squares.containsKey(q)) return U;
        for (int k = 0; k < found.size(); k++) {
            if (Arrays.deepEquals(found.get(k), squares.get(q))) return k;
        }
        return -1;
    }

    long digest() {
        List<Integer> numbers = new ArrayList<>();
        for (int[] sheet : sheets) {
            numbers.add(sheet == null ? -1 : sheet.length);
            for (int i = 0; sheet != null && i < sheet.length; i++) {
                numbers.add(sheet[i]);
            }
        }
        squares.forEach((q, m) -> {
            numbers.add(q);
            numbers.add(m.length);
            for (int[] row : m) {
                for (int v : row) {
                    numbers.add(v);
                }
            }
        });
        numbers.add(found == null ? -1 : found.size());
        long h = 83;
        for (int v : numbers) {
            h = 31 * h + v;
        }
        return h;
    }

    long onSquare(int kind, int[] a) {
        int[][] m = squares.get(a[0]);
        boolean two = kind == Calls.SAME || kind == Calls.PRODUCT || kind == Calls.PLUS;
        if (m == null) return kind == Calls.AT ? 1000000 : kind == Calls.SUM ? 0 : U;
        if (two) return squares.containsKey(a[1]) ? ofTwo(kind, m, squares.get(a[1])) : U;
        int n = m.length;
        switch (kind) {
            case Calls.ORDER: return n;
            case Calls.AT: return a[1] < 0 || a[1] >= n || a[2] < 0 || a[2] >= n ? 1000000 : m[a[1]][a[2]];
            case Calls.SUM: return a[1] < 0 || a[1] >= 4 * n || a[2] < 1 || a[2] > 3 ? 0 : sum(m, a[1], a[2]);
            case Calls.KINDS: return kinds(m);
            case Calls.ODD: return odd(m, a[1], a[2]);
            case Calls.TURN: return a[1] < 0 || a[1] > 7 ? O : keep(turn(m, a[1]));
            case Calls.FORM: return form(m);
            case Calls.UNLIKE: return unlike(m);
            case Calls.SWAP: return a[1] < 0 || a[1] >= n ? O : keep(swap(m, a[1]));
            case Calls.TURNED: return keep(scale(m, -1, least(m) + greatest(m)));
            case Calls.SCALE:
                return Math.abs((long) a[1]) > 1000 || Math.abs((long) a[2]) > 1000 ? O : keep(scale(m, a[1], a[2]));
            default: throw new IllegalArgumentException("no call " + kind);
        }
    }

    long ofTwo(int kind, int[][] m, int[][] r) {
        if (kind == Calls.SAME) return same(m, r);
        if (kind == Calls.PRODUCT) return m.length * r.length > 12 ? O : keep(product(m, r));
        return m.length != r.length ? O : keep(plus(m, r));
    }

    static int same(int[][] m, int[][] r) {
        for (int t = 0; t < 8; t++) {
            if (Arrays.deepEquals(turn(m, t), r)) return t;
        }
        return -1;
    }

    static int unlike(int[][] m) {
        Set<String> texts = new HashSet<>();
        for (int t = 0; t < 8; t++) {
            texts.add(Arrays.deepToString(turn(m, t)));
        }
        return texts.size();
    }

    static int[][] plus(int[][] m, int[][] r) {
        int n = m.length;
        int[][] sum = new int[n][n];
        for (int k = 0; k < n * n; k++) {
            sum[k / n][k % n] = m[k / n][k % n] + r[k / n][k % n];
        }
        return sum;
    }

    static int least(int[][] m) {
        return Arrays.stream(m).flatMapToInt(Arrays::stream).min().getAsInt();
    }

    static int greatest(int[][] m) {
        return Arrays.stream(m).flatMapToInt(Arrays::stream).max().getAsInt();
    }

    static int[][] scale(int[][] m, int a, int b) {
        int n = m.length;
        int[][] made = new int[n][n];
        for (int k = 0; k < n * n; k++) {
            made[k / n][k % n] = m[k / n][k % n] * a + b;
        }
        return made;
    }

    static int[][] product(int[][] q, int[][] r) {
        int m = r.length;
        int[][] made = new int[q.length * m][q.length * m];
        for (int i = 0; i < made.length; i++) {
            for (int j = 0; j < made.length; j++) {
                made[i][j] = r[i % m][j % m] + m * m * (q[i / m][j / m] - 1);
            }
        }
        return made;
    }

    static int[][] swap(int[][] m, int i) {
        int n = m.length;
        int[][] made = new int[n][];
        for (int k = 0; k < n; k++) {
            made[k] = m[k].clone();
        }
        int[] row = made[i];
        made[i] = made[n - 1 - i];
        made[n - 1 - i] = row;
        for (int[] each : made) {
            int v = each[i];
            each[i] = each[n - 1 - i];
            each[n - 1 - i] = v;
        }
        return made;
    }

    static long sum(int[][] m, int line, int power) {
        int n = m.length;
        long total = 0;
        for (int i = 0; i < n; i++) {
            int k = line % n;
            long v;
            switch (line / n) {
                case 0: v = m[k][i]; break;
                case 1: v = m[i][k]; break;
                case 2: v = m[i][(k + i) % n]; break;
                default: v = m[i][Math.floorMod(k - i, n)]; break;
            }
            total += power == 1 ? v : power == 2 ? v * v : v * v * v;
        }
        return total;
    }

    static int odd(int[][] m, int kind, int power) {
        int n = m.length;
        if (kind != 1 && kind != 2 && kind != 4 || power < 1 || power > 3) return O;
        List<Integer> lines = new ArrayList<>();
        for (int line = 0; line < 2 * n; line++) {
            lines.add(line);
        }
        if (kind == 2) {
            lines.add(2 * n);
            lines.add(4 * n - 1);
        }
        for (int line = 2 * n; kind == 4 && line < 4 * n; line++) {
            lines.add(line);
        }
        for (int line : lines) {
            if (sum(m, line, power) != sum(m, 0, power)) return line;
        }
        return -1;
    }

    static int kinds(int[][] m) {
        int n = m.length;
        boolean even = odd(m, 1, 1) == -1;
        boolean full = odd(m, 2, 1) == -1;
        boolean round = odd(m, 4, 1) == -1;
        boolean twice = full && odd(m, 2, 2) == -1;
        boolean thrice = twice && odd(m, 2, 3) == -1;
        Set<Integer> pairs = new HashSet<>();
        Set<Integer> plain = new HashSet<>();
        for (int i = 0; i < n; i++) {
            for (int j = 0; j < n; j++) {
                pairs.add(m[i][j] + m[n - 1 - i][n - 1 - j]);
                plain.add(m[i][j]);
            }
        }
        boolean isPlain = plain.size() == n * n && least(m) == 1 && greatest(m) == n * n;
        return (even ? 1 : 0) + (full ? 2 : 0) + (round ? 4 : 0) + (full && pairs.size() == 1 ? 8 : 0)
            + (twice ? 16 : 0) + (thrice ? 32 : 0) + (isPlain ? 64 : 0);
    }

    static int[][] turn(int[][] m, int t) {
        int n = m.length;
        int[][] from = m;
        if (t >= 4) {
            from = new int[n][n];
            for (int i = 0; i < n; i++) {
                for (int j = 0; j < n; j++) {
                    from[i][j] = m[j][i];
                }
            }
        }
        for (int times = 0; times < t % 4; times++) {
            int[][] next = new int[n][n];
            for (int i = 0; i < n; i++) {
                for (int j = 0; j < n; j++) {
                    next[i][j] = from[n - 1 - j][i];
                }
            }
            from = next;
        }
        return from;
    }

    static int compare(int[][] a, int[][] b) {
        for (int i = 0; i < a.length; i++) {
            int c = Arrays.compare(a[i], b[i]);
            if (c != 0) return c;
        }
        return 0;
    }

    static int form(int[][] m) {
        int best = 0;
        for (int t = 1; t < 8; t++) {
            if (compare(turn(m, t), turn(m, best)) < 0) best = t;
        }
        return best;
    }

    int make(int n) {
        if (n < 1 || n > 12 || n == 2) return O;
        if (n % 2 == 1) return keep(oddOne(n));
        int[][] made = new int[n][n];
        if (n % 4 == 0) {
            for (int k = 0; k < n * n; k++) {
                int i = k / n % 4;
                int j = k % n % 4;
                made[k / n][k % n] = i == j || i + j == 3 ? n * n - k : k + 1;
            }
            return keep(made);
        }
        int m = n / 2;
        int[][] small = oddOne(m);
        char[][] letters = new char[m][m];
        for (int i = 0; i < m; i++) {
            Arrays.fill(letters[i], i <= (m - 1) / 2 ? 'L' : i == (m - 1) / 2 + 1 ? 'U' : 'X');
        }
        letters[(m - 1) / 2][m / 2] = 'U';
        letters[(m - 1) / 2 + 1][m / 2] = 'L';
        for (int i = 0; i < n; i++) {
            for (int j = 0; j < n; j++) {
                char letter = letters[i / 2][j / 2];
                String four = letter == 'L' ? "4123" : letter == 'U' ? "1423" : "1432";
                made[i][j] = 4 * small[i / 2][j / 2] - 4 + four.charAt(i % 2 * 2 + j % 2) - '0';
            }
        }
        return keep(made);
    }

    static int[][] oddOne(int n) {
        int[][] made = new int[n][n];
        int i = 0;
        int j = n / 2;
        for (int v = 1; v <= n * n; v++) {
            made[i][j] = v;
            if (made[(i + n - 1) % n][(j + 1) % n] != 0) {
                i = (i + 1) % n;
            } else {
                i = (i + n - 1) % n;
                j = (j + 1) % n;
            }
        }
        return made;
    }

    int seek(int s, int n, int kinds) {
        if (s < 0 || s > 3) return U;
        if (n < 1 || n > 4) return O;
        if (seeks == 12) return ST;
        if (sheets[s] == null) return blame(1);
        if (sheets[s].length < n * n) return blame(2);
        boolean few = n == 4 && held(s) < 3;
        if (few && wide) return ST;
        seeks++;
        wide |= few;
        found = new ArrayList<>();
        Set<Integer> reserved = new HashSet<>();
        for (int k = 0; k < n * n; k++) {
            int v = sheets[s][k];
            if (v != 0 && (v < 1 || v > n * n || !reserved.add(v))) return 0;
        }
        boolean[] used = new boolean[n * n + 1];
        reserved.forEach(v -> used[v] = true);
        search(new int[n][n], 0, sheets[s], used, kinds & 12);
        return found.size();
    }

    // Row by row, the least first, so that the found ones come in their order of themselves.
    void search(int[][] m, int k, int[] held, boolean[] used, int kinds) {
        int n = m.length;
        if (k == n * n) {
            if ((kinds(m) & (kinds | 2)) == (kinds | 2)) {
                int[][] kept = new int[n][];
                for (int i = 0; i < n; i++) {
                    kept[i] = m[i].clone();
                }
                found.add(kept);
            }
            return;
        }
        for (int v = 1; v <= n * n; v++) {
            if (held[k] != 0 ? held[k] == v : !used[v]) {
                m[k / n][k % n] = v;
                if (sumsSoFar(m, k, held, used)) {
                    used[v] = true;
                    search(m, k + 1, held, used, kinds);
                    used[v] = held[k] != 0;
                }
            }
        }
        m[k / n][k % n] = 0;
    }

    static boolean sumsSoFar(int[][] m, int k, int[] held, boolean[] used) {
        int n = m.length;
        int due = n * (n * n + 1) / 2;
        int row = 0;
        int column = 0;
        int rising = 0;
        for (int i = 0; i < n; i++) {
            row += m[k / n][i];
            column += m[i][k % n];
            rising += m[i][n - 1 - i];
        }
        if (k == n * (n - 1) && rising != due) return false;
        // What the last row then needs must still be there.
        int needed = due - column;
        if (k / n == n - 2 && (needed < 1 || needed > n * n || used[needed] && held[k + n] != needed)) return false;
        return row <= due && (k % n < n - 1 || row == due) && column <= due && (k / n < n - 1 || column == due);
    }
}
