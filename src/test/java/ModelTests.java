import java.math.BigInteger;
import java.util.ArrayList;
import java.util.List;
import java.util.Random;
import java.util.regex.Matcher;
import java.util.regex.Pattern;

/**
 * Random runs of calls, each answer beside that of a second program, which is written another way:
 * fractions of any length, a flow for POSSIBLE, all tables tried for ROUNDED, a pattern for THE TEXT.
 */
public final class ModelTests {
    private static final long NO = Long.MIN_VALUE;
    private static final int OBJECTS = 1500;
    /** Six calls for tapes go ahead of them; behind 512 nothing is promised. */
    private static final int CALLS = 506;
    private static int wrong = 0;

    public static void main(String[] args) {
        for (int seed = 0; seed < OBJECTS && wrong < 20; seed++) runOne(seed);
        System.out.println(wrong == 0 ? "all answers are as the model's" : wrong + " answers are not as the model's");
        if (wrong != 0) System.exit(1);
    }

    private static void runOne(int seed) {
        Driver driver = new Driver(seed);
        for (int call = 0; call < CALLS; call++) {
            driver.step();
            if (driver.got != driver.want) {
                wrong++;
                System.out.println("seed " + seed + ", call " + call + ": " + driver.name + " answered " + driver.got
                        + ", the model " + driver.want);
                return;
            }
        }
    }

    /** A fraction of any length, always in lowest terms. */
    record Ratio(BigInteger above, BigInteger below) {
        static Ratio of(long n) {
            return of(BigInteger.valueOf(n), BigInteger.ONE);
        }

        static Ratio of(BigInteger above, BigInteger below) {
            BigInteger common = above.gcd(below);
            return new Ratio(above.divide(common), below.divide(common));
        }

        Ratio plus(Ratio o) {
            return of(above.multiply(o.below).add(o.above.multiply(below)), below.multiply(o.below));
        }

        Ratio minus(Ratio o) {
            return of(above.multiply(o.below).subtract(o.above.multiply(below)), below.multiply(o.below));
        }

        Ratio times(Ratio o) {
            return of(above.multiply(o.above), below.multiply(o.below));
        }

        Ratio by(Ratio o) {
            return of(above.multiply(o.below), below.multiply(o.above));
        }

        Ratio abs() {
            return new Ratio(above.abs(), below);
        }

        int compare(Ratio o) {
            return minus(o).above.signum();
        }

        boolean isFine() {
            BigInteger most = BigInteger.valueOf(999999);
            return above.compareTo(most) > 0 || below.compareTo(most) > 0;
        }

        int floor() {
            return above.divide(below).intValueExact();
        }

        int ceil() {
            return above.add(below).subtract(BigInteger.ONE).divide(below).intValueExact();
        }

        long part(int part) {
            BigInteger most = BigInteger.valueOf(Long.MAX_VALUE);
            if (part < 0 || part > 1 || above.compareTo(most) > 0 || below.compareTo(most) > 0) return NO;
            return (part == 0 ? above : below).longValueExact();
        }
    }

    /** All that THE IMAGE keeps. */
    static final class Held {
        int rows = 2, columns = 2;
        int[][] counts = new int[3][3], marks = new int[3][3], margins = new int[3][3];
        boolean three;
        Ratio[][] table = new Ratio[3][3];
        int rounds;
        List<int[]> seen = new ArrayList<>(), events = new ArrayList<>(), book = new ArrayList<>();

        Held copy() {
            Held c = new Held();
            c.rows = rows;
            c.columns = columns;
            c.three = three;
            c.rounds = rounds;
            for (int i = 0; i < 3; i++) {
                c.counts[i] = counts[i].clone();
                c.marks[i] = marks[i].clone();
                c.margins[i] = margins[i].clone();
                c.table[i] = table[i].clone();
            }
            c.seen = new ArrayList<>(seen);
            c.events = new ArrayList<>(events);
            c.book = new ArrayList<>(book);
            return c;
        }
    }

    static final class Model {
        private static final Pattern SET_UP;

        static {
            String clause = "(?:s\\d\\d|n\\d\\d\\d\\d?|k\\d\\d\\d|m\\d\\d\\d\\d?|x)";
            SET_UP = Pattern.compile(clause + "(?:;" + clause + "){0,11}");
        }

        Held h = new Held();
        Held image;
        String text = "";
        long[][] tapes = new long[6][];
        int[] sorts = new int[6];

        Model() {
            size(2, 2);
        }

        boolean cellIs(int i, int j) {
            return i >= 0 && j >= 0 && i < h.rows && j < h.columns;
        }

        int lines(int way) {
            return way == 0 ? h.rows : way == 1 ? h.columns : way == 2 ? 3 : 0;
        }

        boolean lineIs(int way, int k) {
            return k >= 0 && k < lines(way);
        }

        int size(int rows, int columns) {
            if (rows < 1 || rows > 3 || columns < 1 || columns > 3) return -2;
            boolean three = h.three;
            h = new Held();
            h.three = three;
            h.rows = rows;
            h.columns = columns;
            for (int i = 0; i < 3; i++) {
                for (int j = 0; j < 3; j++) {
                    h.counts[i][j] = 1;
                    h.margins[i][j] = 10;
                }
            }
            begin();
            return rows * columns;
        }

        int begin() {
            int had = h.rounds;
            for (int i = 0; i < 3; i++) {
                for (int j = 0; j < 3; j++) h.table[i][j] = Ratio.of(h.counts[i][j]);
            }
            h.rounds = 0;
            return had;
        }

        int tell(int i, int j, int n) {
            if (!cellIs(i, j)) return -1;
            if (n < 0 || n > 20) return -2;
            int old = h.counts[i][j];
            h.counts[i][j] = n;
            begin();
            return old;
        }

        int mark(int i, int j, int m) {
            if (!cellIs(i, j)) return -1;
            if (m < 0 || m > 2) return -2;
            int old = h.marks[i][j];
            h.marks[i][j] = m;
            return old;
        }

        int margin(int way, int k, int v) {
            if (!lineIs(way, k)) return -1;
            if (v < 0 || v > 60) return -2;
            int old = h.margins[way][k];
            h.margins[way][k] = v;
            return old;
        }

        int three(boolean is) {
            int old = h.three ? 1 : 0;
            h.three = is;
            return old;
        }

        int of(int i, int j, int what) {
            if (!cellIs(i, j) || what < 0 || what > 1) return -1;
            return what == 0 ? h.counts[i][j] : h.marks[i][j];
        }

        int feed(int sign) {
            if (sign < 0 || sign > 127) return -2;
            if (text.length() == 100) return -4;
            text += (char) sign;
            return text.length();
        }

        int read() {
            String t = text;
            text = "";
            for (int p = 1; p <= t.length(); p++) {
                Matcher m = SET_UP.matcher(t.substring(0, p));
                if (!m.matches() && !m.hitEnd()) return -10 - (p - 1);
            }
            if (!SET_UP.matcher(t).matches()) return -10 - t.length();
            int done = 0;
            for (String c : t.split(";")) {
                int a = c.length() > 1 ? c.charAt(1) - '0' : 0;
                int b = c.length() > 2 ? c.charAt(2) - '0' : 0;
                int v = c.length() > 3 ? Integer.parseInt(c.substring(3)) : 0;
                int answer = switch (c.charAt(0)) {
                    case 's' -> size(a, b);
                    case 'n' -> tell(a, b, v);
                    case 'k' -> mark(a, b, v);
                    case 'm' -> margin(a, b, v);
                    default -> three(!h.three);
                };
                if (answer >= 0) done++;
            }
            return done;
        }

        List<int[]> cellsOf(int way, int k) {
            List<int[]> all = new ArrayList<>();
            for (int i = 0; i < h.rows; i++) {
                for (int j = 0; j < h.columns; j++) {
                    int line = way == 0 ? i : way == 1 ? j : h.marks[i][j];
                    if (way < 0 || line == k) all.add(new int[] {i, j});
                }
            }
            return all;
        }

        /** null: it is fine. */
        Ratio sumOf(List<Ratio> some) {
            Ratio all = Ratio.of(0);
            boolean fine = false;
            for (Ratio one : some) {
                all = all.plus(one);
                fine |= all.isFine();
            }
            return fine ? null : all;
        }

        Ratio lineSum(Ratio[][] table, int way, int k) {
            List<Ratio> some = new ArrayList<>();
            for (int[] c : cellsOf(way, k)) some.add(table[c[0]][c[1]]);
            return sumOf(some);
        }

        /** null: there is none. */
        Ratio[][] fitted(Ratio[][] table, int way) {
            Ratio[][] now = {table[0].clone(), table[1].clone(), table[2].clone()};
            for (int k = 0; k < lines(way); k++) {
                Ratio sum = lineSum(table, way, k);
                if (sum == null) return null;
                if (sum.above.signum() == 0) continue;
                for (int[] c : cellsOf(way, k)) {
                    now[c[0]][c[1]] = table[c[0]][c[1]].times(Ratio.of(h.margins[way][k])).by(sum);
                    if (now[c[0]][c[1]].isFine()) return null;
                }
            }
            return now;
        }

        int changed(Ratio[][] a, Ratio[][] b) {
            int n = 0;
            for (int[] c : cellsOf(-1, 0)) if (!a[c[0]][c[1]].equals(b[c[0]][c[1]])) n++;
            return n;
        }

        int fit(int way) {
            if (way < 0 || way > 2) return -1;
            if (way == 2 && !h.three) return -3;
            Ratio[][] next = fitted(h.table, way);
            if (next == null) return -6;
            int n = changed(next, h.table);
            h.table = next;
            return n;
        }

        boolean round() {
            Ratio[][] next = fitted(h.table, 0);
            if (next != null) next = fitted(next, 1);
            if (next != null && h.three) next = fitted(next, 2);
            if (next == null || changed(next, h.table) == 0) return false;
            h.table = next;
            h.rounds++;
            return true;
        }

        int rounds(int n) {
            if (n < 0 || n > 20) return -2;
            int done = 0;
            for (; done < n; done++) if (!round()) break;
            return done;
        }

        long cell(int i, int j, int part) {
            return cellIs(i, j) ? h.table[i][j].part(part) : NO;
        }

        long sum(int way, int k, int part) {
            if (!lineIs(way, k)) return NO;
            Ratio sum = lineSum(h.table, way, k);
            return sum == null ? NO : sum.part(part);
        }

        Ratio gapOf(int way, int k) {
            Ratio sum = lineSum(h.table, way, k);
            return sum == null ? null : sum.minus(Ratio.of(h.margins[way][k])).abs();
        }

        long gap(int way, int k, int part) {
            if (!lineIs(way, k)) return NO;
            Ratio gap = gapOf(way, k);
            return gap == null ? NO : gap.part(part);
        }

        int farthest() {
            Ratio most = Ratio.of(-1);
            int which = -1;
            for (int way = 0; way < (h.three ? 3 : 2); way++) {
                for (int k = 0; k < lines(way); k++) {
                    Ratio gap = gapOf(way, k);
                    if (gap == null) return -6;
                    if (gap.compare(most) > 0) {
                        most = gap;
                        which = 10 * way + k;
                    }
                }
            }
            return which;
        }

        int settled() {
            int far = farthest();
            return far == -6 ? -6 : gapOf(far / 10, far % 10).above.signum() == 0 ? 1 : 0;
        }

        int told(int what) {
            switch (what) {
                case 0: return h.rows;
                case 1: return h.columns;
                case 2: return h.three ? 1 : 0;
                case 3: return h.rounds;
                case 4: return settled();
                case 5: return possible() ? 1 : 0;
                case 6: return forbids();
                case 7: return allCounts();
                default: return -1;
            }
        }

        int allCounts() {
            int all = 0;
            for (int[] c : cellsOf(-1, 0)) all += h.counts[c[0]][c[1]];
            return all;
        }

        int all(int way) {
            int all = 0;
            for (int k = 0; k < lines(way); k++) all += h.margins[way][k];
            return all;
        }

        /** Ones are pushed from rows to columns along paths that may take back earlier ones. */
        boolean possible() {
            if (all(0) != all(1)) return false;
            int[][] flow = new int[3][3];
            int[] left = h.margins[0].clone();
            int[] room = h.margins[1].clone();
            for (int i = 0; i < h.rows; i++) {
                for (; left[i] > 0; left[i]--) {
                    if (!push(i, flow, room, new boolean[3])) return false;
                }
            }
            return true;
        }

        private boolean push(int i, int[][] flow, int[] room, boolean[] been) {
            been[i] = true;
            for (int j = 0; j < h.columns; j++) {
                if (h.counts[i][j] == 0) continue;
                if (room[j] > 0) {
                    room[j]--;
                    flow[i][j]++;
                    return true;
                }
                for (int o = 0; o < h.rows; o++) {
                    if (been[o] || flow[o][j] == 0) continue;
                    if (push(o, flow, room, been)) {
                        flow[o][j]--;
                        flow[i][j]++;
                        return true;
                    }
                }
            }
            return false;
        }

        int forbids() {
            int[] byFewest = {1, 2, 4, 3, 5, 6, 7};
            for (int set : byFewest) {
                if (set >= 1 << h.rows) continue;
                int need = 0;
                boolean[] has = new boolean[3];
                for (int i = 0; i < h.rows; i++) {
                    if ((set & 1 << i) == 0) continue;
                    need += h.margins[0][i];
                    for (int j = 0; j < h.columns; j++) has[j] |= h.counts[i][j] > 0;
                }
                int gives = 0;
                for (int j = 0; j < h.columns; j++) if (has[j]) gives += h.margins[1][j];
                if (need > gives) return set;
            }
            return 0;
        }

        /** CELL by CELL; null: there is none. Of all tables tried, the one that reads least. */
        int[] roundedAll() {
            Ratio[] rows = new Ratio[h.rows];
            Ratio[] columns = new Ratio[h.columns];
            List<Ratio> ofRows = new ArrayList<>();
            for (int i = 0; i < h.rows; i++) {
                rows[i] = lineSum(h.table, 0, i);
                if (rows[i] == null) return null;
                ofRows.add(rows[i]);
            }
            for (int j = 0; j < h.columns; j++) {
                columns[j] = lineSum(h.table, 1, j);
                if (columns[j] == null) return null;
            }
            Ratio total = sumOf(ofRows);
            if (total == null) return null;
            int n = h.rows * h.columns;
            int[] low = new int[n];
            int[] high = new int[n];
            for (int c = 0; c < n; c++) {
                low[c] = h.table[c / h.columns][c % h.columns].floor();
                high[c] = h.table[c / h.columns][c % h.columns].ceil();
            }
            int[] best = null;
            for (int ups = 0; ups < 1 << n; ups++) {
                int[] now = new int[n];
                boolean real = true;
                for (int c = 0; c < n; c++) {
                    boolean up = (ups >> c & 1) == 1;
                    if (up && low[c] == high[c]) real = false;
                    now[c] = up ? high[c] : low[c];
                }
                if (real && stand(now, rows, columns, total) && (best == null || isLess(now, best))) best = now;
            }
            if (best == null) throw new IllegalStateException("there is always one");
            return best;
        }

        private boolean stand(int[] now, Ratio[] rows, Ratio[] columns, Ratio total) {
            int all = 0;
            int[] r = new int[3];
            int[] c = new int[3];
            for (int k = 0; k < now.length; k++) {
                r[k / h.columns] += now[k];
                c[k % h.columns] += now[k];
                all += now[k];
            }
            for (int i = 0; i < rows.length; i++) if (r[i] < rows[i].floor() || r[i] > rows[i].ceil()) return false;
            for (int j = 0; j < columns.length; j++) {
                if (c[j] < columns[j].floor() || c[j] > columns[j].ceil()) return false;
            }
            return all >= total.floor() && all <= total.ceil();
        }

        private static boolean isLess(int[] a, int[] b) {
            for (int k = 0; k < a.length; k++) if (a[k] != b[k]) return a[k] < b[k];
            return false;
        }

        int rounded(int i, int j) {
            if (!cellIs(i, j)) return -1;
            int[] all = roundedAll();
            return all == null ? -6 : all[i * h.columns + j];
        }

        int together(int way, int k) {
            if (!lineIs(way, k)) return -1;
            int[] all = roundedAll();
            if (all == null) return -6;
            int n = 0;
            for (int[] c : cellsOf(way, k)) n += all[c[0] * h.columns + c[1]];
            return n;
        }

        long cross(int i, int k, int j, int l, int part) {
            if (!cellIs(i, j) || !cellIs(k, l)) return NO;
            Ratio[][] t = h.table;
            if (t[i][l].above.signum() == 0 || t[k][j].above.signum() == 0) return NO;
            return t[i][j].by(t[i][l]).times(t[k][l].by(t[k][j])).part(part);
        }

        long orders() {
            BigInteger all = factorial(allCounts());
            for (int[] c : cellsOf(-1, 0)) all = all.divide(factorial(h.counts[c[0]][c[1]]));
            return all.bitLength() > 63 ? NO : all.longValueExact();
        }

        private static BigInteger factorial(int n) {
            BigInteger all = BigInteger.ONE;
            for (int k = 2; k <= n; k++) all = all.multiply(BigInteger.valueOf(k));
            return all;
        }

        int rank(int k) {
            List<int[]> all = cellsOf(-1, 0);
            if (k < 0 || k >= all.size()) return -1;
            all.sort((a, b) -> h.table[b[0]][b[1]].compare(h.table[a[0]][a[1]]));
            return 10 * all.get(k)[0] + all.get(k)[1];
        }

        int note(List<int[]> notes, int most, int i, int j, int n) {
            if (i == -1) {
                notes.clear();
                return 0;
            }
            if (!cellIs(i, j)) return -1;
            if (n < 0 || n > 60) return -2;
            if (notes.size() == most) return -4;
            notes.add(new int[] {i, j, n});
            return notes.size();
        }

        /** What is ROUNDED, were the COUNT n, behind one round; null: nothing. */
        int[] roundedWith(int i, int j, int n) {
            Held kept = h;
            h = kept.copy();
            tell(i, j, n);
            round();
            int[] all = roundedAll();
            h = kept;
            return all;
        }

        int fitting(int i, int j, int what) {
            if (!cellIs(i, j) || what < 0 || what > 1) return -1;
            List<Integer> fits = new ArrayList<>();
            for (int n = 0; n <= 20; n++) {
                int[] all = roundedWith(i, j, n);
                if (all == null) continue;
                boolean so = true;
                for (int[] s : h.seen) so &= all[s[0] * h.columns + s[1]] == s[2];
                if (so) fits.add(n);
            }
            return what == 0 ? fits.size() : fits.isEmpty() ? -5 : fits.get(0);
        }

        long odds(int i, int j, int part) {
            if (!cellIs(i, j)) return NO;
            int good = 0;
            for (int n = 0; n <= 9; n++) {
                int[] all = roundedWith(i, j, n);
                if (all != null && all[i * h.columns + j] >= n) good++;
            }
            return Ratio.of(good).by(Ratio.of(10)).part(part);
        }

        long mean(int part) {
            return Ratio.of(allCounts()).by(Ratio.of(h.rows * h.columns)).part(part);
        }

        int event(int what, int n) {
            if (what == -1) {
                h.events.clear();
                return 0;
            }
            if (what < 0 || what > 3) return -1;
            if (what == 0 && (n < 0 || !cellIs(n / 10, n % 10))) return -1;
            if (what == 1 && !lineIs(0, n) || what == 2 && !lineIs(1, n)) return -1;
            if (what == 3 && (n < 0 || n > 60)) return -2;
            if (h.events.size() == 8) return -4;
            h.events.add(new int[] {what, n});
            return h.events.size();
        }

        long after(int what) {
            Held kept = h;
            h = kept.copy();
            for (int[] e : h.events) {
                if (e[0] == 0) h.counts[e[1] / 10][e[1] % 10] = 0;
                if (e[0] == 1 && h.margins[0][e[1]] < 60) h.margins[0][e[1]]++;
                if (e[0] == 2 && h.margins[1][e[1]] < 60) h.margins[1][e[1]]++;
                if (e[0] == 3) h.margins[0] = new int[] {e[1], e[1], e[1]};
            }
            long answer = what == 0 ? (possible() ? 1 : 0) : what == 1 ? forbids() : what == 2 ? all(0) - all(1) : NO;
            h = kept;
            return answer;
        }

        int looked() {
            int[] all = roundedAll();
            if (all == null) return -6;
            for (int r = 0; r < h.book.size(); r++) {
                int[] b = h.book.get(r);
                if (all[b[0] * h.columns + b[1]] != b[2]) return r;
            }
            return -5;
        }

        int judge(int tape, int i) {
            if (tape < 0 || tape > 5) return -1;
            int[] all = roundedAll();
            if (all == null) return -6;
            if (tapes[tape] == null) return 100;
            if (sorts[tape] != 2) return -12;
            for (int c = 0; c < all.length; c++) {
                long at = (long) i + c;
                if (i < 0 || at >= tapes[tape].length) return 100 + c;
                if (tapes[tape][(int) at] != all[c]) return c;
            }
            return -5;
        }

        int image() {
            image = h.copy();
            return h.rows * h.columns;
        }

        int undo() {
            if (image == null) return -3;
            h = image.copy();
            return h.rows * h.columns;
        }

        int count(int what) {
            switch (what) {
                case 0: return h.seen.size();
                case 1: return h.events.size();
                case 2: return h.book.size();
                case 3: return text.length();
                default: return -2;
            }
        }

        int tape(int tape, int sort, int n) {
            if (tape < 0 || tape > 5) return -1;
            if (sort < -1 || sort > 4 || sort >= 0 && n > 60) return -2;
            if (sort >= 0 && n < 0) return -14;
            tapes[tape] = sort < 0 ? null : new long[n];
            sorts[tape] = sort;
            return 1;
        }

        int item(int tape, int i, long v) {
            if (tape < 0 || tape > 5) return -1;
            if (tapes[tape] == null) return -11;
            if (i < 0 || i >= tapes[tape].length) return -13;
            int bits = new int[] {8, 16, 32, 64, 0}[sorts[tape]];
            tapes[tape][i] = bits == 0 ? (v == 0 ? 0 : 1) : v << 64 - bits >> 64 - bits;
            return 1;
        }

        long peek(int tape, int i) {
            if (tape < 0 || tape > 5 || tapes[tape] == null) return NO;
            return i < 0 || i >= tapes[tape].length ? NO : tapes[tape][i];
        }

        int shift(int tape, int i, int other, int j, int n) {
            if (tape < 0 || tape > 5 || other < 0 || other > 5) return -1;
            if (tapes[tape] == null || tapes[other] == null) return -11;
            if (sorts[tape] != sorts[other]) return -12;
            if (n < 0 || i < 0 || j < 0) return -13;
            if ((long) i + n > tapes[tape].length || (long) j + n > tapes[other].length) return -13;
            long[] were = tapes[tape].clone();
            for (int k = 0; k < n; k++) tapes[other][j + k] = were[i + k];
            return n;
        }
    }

    /** Draws the calls: mostly such as are taken, some at the edges, some wild. */
    static final class Driver {
        final RakeTables x = new RakeTables();
        final Model m = new Model();
        final Random random;
        final int style;
        String pending = "";
        String name;
        long got, want;

        Driver(int seed) {
            random = new Random(seed * 7919L + 13);
            style = seed % 5;
            for (int tape = 0; tape < 6 && style > 0; tape++) {
                x.tape(tape, (tape + style) % 5, 9);
                m.tape(tape, (tape + style) % 5, 9);
            }
        }

        int below(int n) {
            return random.nextInt(n);
        }

        int wild() {
            int[] some = {-1, -2, 3, 4, 61, 100, 127, 128, Integer.MAX_VALUE, Integer.MIN_VALUE, 21, 6, 60};
            return some[below(some.length)];
        }

        int upTo(int n) {
            return below(25) == 0 ? wild() : below(n);
        }

        int line() {
            return below(12) == 0 ? wild() : below(3);
        }

        int row() {
            return below(30) == 0 ? wild() : below(m.h.rows);
        }

        int column() {
            return below(30) == 0 ? wild() : below(m.h.columns);
        }

        int part() {
            return upTo(2);
        }

        int countValue() {
            return style == 0 ? upTo(3) : style == 1 ? upTo(6) : below(15) == 0 ? 21 : below(21);
        }

        int marginValue() {
            return style == 0 ? upTo(5) : style == 4 ? upTo(3) : style == 1 ? upTo(13) : below(20) == 0 ? 61 : below(61);
        }

        void is(String name, long got, long want) {
            this.name = name;
            this.got = got;
            this.want = want;
        }

        void step() {
            if (!pending.isEmpty()) {
                int sign = pending.charAt(0);
                pending = pending.substring(1);
                is("feed(" + sign + ")", x.feed(sign), m.feed(sign));
                return;
            }
            switch (below(4)) {
                case 0: tellOne(); break;
                case 1: askOfTable(); break;
                case 2: askOfSetUp(); break;
                default: tellRest(); break;
            }
        }

        void tellOne() {
            int i = row(), j = column(), way = upTo(3), k = line();
            switch (below(14)) {
                case 0: {
                    if (below(3) != 0) break;
                    int r = upTo(4), c = upTo(4);
                    if (style == 3) r = c = 3;
                    is("size(" + r + ", " + c + ")", x.size(r, c), m.size(r, c));
                    return;
                }
                case 1: case 2: case 3: {
                    int n = countValue();
                    is("tell(" + i + ", " + j + ", " + n + ")", x.tell(i, j, n), m.tell(i, j, n));
                    return;
                }
                case 4: case 5:
                    is("mark(" + i + ", " + j + ", " + k + ")", x.mark(i, j, k), m.mark(i, j, k));
                    return;
                case 6: case 7: case 8: {
                    int v = marginValue();
                    is("margin(" + way + ", " + k + ", " + v + ")", x.margin(way, k, v), m.margin(way, k, v));
                    return;
                }
                case 9: {
                    boolean three = below(2) == 0;
                    is("three(" + three + ")", x.three(three), m.three(three));
                    return;
                }
                case 10: pending = text(); break;
                case 11: is("fit(" + way + ")", x.fit(way), m.fit(way)); return;
                default: {
                    int n = below(3) == 0 ? upTo(21) : 1;
                    is("rounds(" + n + ")", x.rounds(n), m.rounds(n));
                    return;
                }
            }
            is("read()", x.read(), m.read());
        }

        void askOfTable() {
            int i = row(), j = column(), k = line(), l = column(), way = upTo(3), part = part();
            switch (below(12)) {
                case 0: is("cell(" + i + ", " + j + ", " + part + ")", x.cell(i, j, part), m.cell(i, j, part)); break;
                case 1: is("sum(" + way + ", " + k + ", " + part + ")", x.sum(way, k, part), m.sum(way, k, part)); break;
                case 2: is("gap(" + way + ", " + k + ", " + part + ")", x.gap(way, k, part), m.gap(way, k, part)); break;
                case 3: is("farthest()", x.farthest(), m.farthest()); break;
                case 4: is("rounded(" + i + ", " + j + ")", x.rounded(i, j), m.rounded(i, j)); break;
                case 5: is("together(" + way + ", " + k + ")", x.together(way, k), m.together(way, k)); break;
                case 6: {
                    int o = row();
                    is("cross(" + i + ", " + o + ", " + j + ", " + l + ", " + part + ")", x.cross(i, o, j, l, part),
                            m.cross(i, o, j, l, part));
                    break;
                }
                case 7: {
                    int r = upTo(9);
                    is("rank(" + r + ")", x.rank(r), m.rank(r));
                    break;
                }
                case 8: {
                    int what = upTo(8);
                    is("told(" + what + ")", x.told(what), m.told(what));
                    break;
                }
                case 9: is("looked()", x.looked(), m.looked()); break;
                case 10: is("begin()", x.begin(), m.begin()); break;
                default: {
                    int t = upTo(6), from = below(4) == 0 ? wild() : below(3);
                    is("judge(" + t + ", " + from + ")", x.judge(t, from), m.judge(t, from));
                    break;
                }
            }
        }

        void askOfSetUp() {
            int i = row(), j = column(), part = part(), what = upTo(3);
            switch (below(11)) {
                case 0: is("of(" + i + ", " + j + ", " + part + ")", x.of(i, j, part), m.of(i, j, part)); break;
                case 1: {
                    int way = upTo(3), k = line();
                    is("marginOf(" + way + ", " + k + ")", x.marginOf(way, k), m.lineIs(way, k) ? m.h.margins[way][k] : -1);
                    break;
                }
                case 2: is("orders()", x.orders(), m.orders()); break;
                case 3: is("mean(" + part + ")", x.mean(part), m.mean(part)); break;
                case 4: is("after(" + what + ")", x.after(what), m.after(what)); break;
                case 5: case 6:
                    is("told(" + (what + 4) + ")", x.told(what + 4), m.told(what + 4));
                    break;
                case 7: is("count(" + (what + 1) + ")", x.count(what + 1), m.count(what + 1)); break;
                case 8: is("fitting(" + i + ", " + j + ", " + part + ")", x.fitting(i, j, part), m.fitting(i, j, part)); break;
                case 9: is("odds(" + i + ", " + j + ", " + part + ")", x.odds(i, j, part), m.odds(i, j, part)); break;
                default: is("told(" + part + ")", x.told(part), m.told(part)); break;
            }
        }

        void tellRest() {
            int i = row(), j = column();
            switch (below(12)) {
                case 0: case 1: {
                    if (below(6) == 0) i = -1;
                    int n = noted(i, j);
                    is("see(" + i + ", " + j + ", " + n + ")", x.see(i, j, n), m.note(m.h.seen, 5, i, j, n));
                    break;
                }
                case 2: case 3: {
                    if (below(10) == 0) i = -1;
                    int n = noted(i, j);
                    is("book(" + i + ", " + j + ", " + n + ")", x.book(i, j, n), m.note(m.h.book, 8, i, j, n));
                    break;
                }
                case 4: case 5: {
                    int what = below(12) == 0 ? -1 : upTo(4);
                    int n = what == 0 ? 10 * i + j : what == 3 ? marginValue() : line();
                    if (below(20) == 0) n = wild();
                    is("event(" + what + ", " + n + ")", x.event(what, n), m.event(what, n));
                    break;
                }
                case 6: if (below(3) == 0) is("image()", x.image(), m.image()); else tellOne(); break;
                case 7: if (below(3) == 0) is("undo()", x.undo(), m.undo()); else tellOne(); break;
                default: tapeCall(); break;
            }
        }

        /** Often what is so, that rows of SEEN and of the BOOK have something in them that fits. */
        int noted(int i, int j) {
            int n = below(3) == 0 ? upTo(61) : m.rounded(i, j);
            return n == -6 ? below(10) : n;
        }

        void tapeCall() {
            int tape = upTo(6), i = upTo(12), other = upTo(6), j = upTo(12), sort = below(15) == 0 ? -1 : upTo(5);
            switch (below(8)) {
                case 0: {
                    int n = below(8) == 0 ? wild() : below(14);
                    if (below(2) == 0) sort = 2;
                    is("tape(" + tape + ", " + sort + ", " + n + ")", x.tape(tape, sort, n), m.tape(tape, sort, n));
                    break;
                }
                case 1: case 2: case 3: {
                    int[] all = m.roundedAll();
                    long v = below(2) == 0 || all == null ? random.nextLong() >> below(64) : all[i >= 0 ? i % all.length : 0];
                    is("item(" + tape + ", " + i + ", " + v + ")", x.item(tape, i, v), m.item(tape, i, v));
                    break;
                }
                case 4: case 5: is("peek(" + tape + ", " + i + ")", x.peek(tape, i), m.peek(tape, i)); break;
                default: {
                    if (below(3) == 0) other = tape;
                    int n = below(10) == 0 ? wild() : below(7);
                    is("shift(" + tape + ", " + i + ", " + other + ", " + j + ", " + n + ")",
                            x.shift(tape, i, other, j, n), m.shift(tape, i, other, j, n));
                    break;
                }
            }
        }

        /** Clauses as told, now and then with a sign too many, too few or another. */
        String text() {
            StringBuilder all = new StringBuilder();
            int many = 1 + below(below(6) == 0 ? 14 : 6);
            for (int c = 0; c < many; c++) {
                if (c > 0) all.append(';');
                all.append(clause());
            }
            if (below(3) == 0) {
                int at = below(all.length());
                switch (below(3)) {
                    case 0: all.deleteCharAt(at); break;
                    case 1: all.insert(at, "snkmx;0123 ".charAt(below(11))); break;
                    default: all.setLength(at); break;
                }
            }
            return all.toString();
        }

        String clause() {
            String place = "" + Math.min(9, Math.abs(row())) + Math.min(9, Math.abs(column()));
            int way = below(4);
            switch (below(9)) {
                case 0: return style == 3 ? "s33" : "s" + below(5) + below(5);
                case 1: case 2: return "n" + place + number(countValue());
                case 3: case 4: return "k" + place + below(4);
                case 5: case 6: case 7: return "m" + way + below(4) + number(marginValue());
                default: return "x";
            }
        }

        String number(int n) {
            int kept = Math.floorMod(n, 100);
            return kept < 10 && below(4) == 0 ? "0" + kept : "" + kept;
        }
    }
}
