import java.math.BigInteger;
import java.util.ArrayList;
import java.util.Arrays;
import java.util.List;
import java.util.NoSuchElementException;
import java.util.TreeSet;

/**
 * The document told once more, by other and slower ways than those of the class: fractions of
 * BigInteger, sets, tables over all subsets, work tick by tick. CompareTest puts both side by side.
 */
public final class Oracle {
    private final List<int[][]> matrices = new ArrayList<>();
    private final List<int[]> rights = new ArrayList<>();
    private final List<List<Integer>> orders = new ArrayList<>();

    private int[][] at(int matrix) {
        if (matrix < 0 || matrix >= matrices.size()) {
            throw new IndexOutOfBoundsException();
        }
        return matrices.get(matrix);
    }

    private static void index(int number, int end) {
        if (number < 0 || number >= end) {
            throw new IndexOutOfBoundsException();
        }
    }

    private static void range(long number, long low, long high) {
        if (number < low || number > high) {
            throw new IllegalArgumentException();
        }
    }

    private static void need(boolean is) {
        if (!is) {
            throw new UnsupportedOperationException();
        }
    }

    private static void square(int[][] a) {
        need(a.length == a[0].length);
    }

    private static boolean small(int[][] a) {
        return a.length <= 10 && a[0].length <= 10;
    }

    private int add(int[][] a) {
        if (matrices.size() == 6) {
            throw new IllegalStateException();
        }
        matrices.add(a);
        rights.add(new int[a.length]);
        List<Integer> order = new ArrayList<>();
        for (int i = 0; i < a.length; i++) {
            order.add(i);
        }
        orders.add(order);
        return matrices.size() - 1;
    }

    public int matrix(int rows, int columns) {
        range(rows, 1, 16);
        range(columns, 1, 16);
        return add(new int[rows][columns]);
    }

    public int set(int matrix, int row, int column, int entry) {
        int[][] a = at(matrix);
        index(row, a.length);
        index(column, a[0].length);
        range(entry, -999, 999);
        int before = a[row][column];
        a[row][column] = entry;
        return before;
    }

    public int entry(int matrix, int row, int column) {
        int[][] a = at(matrix);
        index(row, a.length);
        index(column, a[0].length);
        return a[row][column];
    }

    public int right(int matrix, int row, int number) {
        int[][] a = at(matrix);
        index(row, a.length);
        range(number, -999, 999);
        int before = rights.get(matrix)[row];
        rights.get(matrix)[row] = number;
        return before;
    }

    public int exchange(int matrix, boolean areRows, int one, int other) {
        int[][] a = at(matrix);
        index(one, areRows ? a.length : a[0].length);
        index(other, areRows ? a.length : a[0].length);
        int count = 0;
        if (areRows) {
            for (int j = 0; j < a[0].length; j++) {
                count += a[one][j] != 0 ? 1 : 0;
                count += one != other && a[other][j] != 0 ? 1 : 0;
            }
            int[] row = a[one];
            a[one] = a[other];
            a[other] = row;
            int[] b = rights.get(matrix);
            int number = b[one];
            b[one] = b[other];
            b[other] = number;
        } else {
            for (int[] row : a) {
                count += row[one] != 0 ? 1 : 0;
                count += one != other && row[other] != 0 ? 1 : 0;
                int entry = row[one];
                row[one] = row[other];
                row[other] = entry;
            }
        }
        return count;
    }

    public int entries(int matrix) {
        int count = 0;
        for (int[] row : at(matrix)) {
            for (int entry : row) {
                count += entry != 0 ? 1 : 0;
            }
        }
        return count;
    }

    private static int[][] turn(int[][] a) {
        int[][] t = new int[a[0].length][a.length];
        for (int i = 0; i < a.length; i++) {
            for (int j = 0; j < a[0].length; j++) {
                t[j][i] = a[i][j];
            }
        }
        return t;
    }

    public int transpose(int matrix) {
        return add(turn(at(matrix)));
    }

    public int multiply(int matrix, int other) {
        int[][] a = at(matrix);
        int[][] b = at(other);
        need(a[0].length == b.length);
        int[][] c = new int[a.length][b[0].length];
        for (int i = 0; i < a.length; i++) {
            for (int j = 0; j < b[0].length; j++) {
                for (int k = 0; k < b.length; k++) {
                    c[i][j] += a[i][k] * b[k][j];
                }
                need(Math.abs(c[i][j]) <= 999);
            }
        }
        return add(c);
    }

    public int foretold(int matrix, int other) {
        int[][] a = at(matrix);
        int[][] b = at(other);
        need(a[0].length == b.length);
        TreeSet<Integer> found = new TreeSet<>();
        for (int k = 0; k < b.length; k++) {
            for (int i = 0; i < a.length; i++) {
                for (int j = 0; j < b[0].length; j++) {
                    if (a[i][k] != 0 && b[k][j] != 0) {
                        found.add(100 * i + j);
                    }
                }
            }
        }
        return found.size();
    }

    public boolean isSymmetric(int matrix) {
        return Arrays.deepEquals(at(matrix), turn(at(matrix)));
    }

    // ---- matchings: by a table over all sets of columns

    /** Of each set of columns that can be matched with so many rows, the greatest least amount. */
    private static int[] leastOfSets(int[][] a) {
        int[] best = new int[1 << a[0].length];
        Arrays.fill(best, -1);
        best[0] = 1000;
        for (int[] row : a) {
            for (int s = best.length - 1; s >= 0; s--) {
                for (int j = 0; j < row.length; j++) {
                    if ((s >> j & 1) != 0 && row[j] != 0) {
                        best[s] = Math.max(best[s], Math.min(best[s & ~(1 << j)], Math.abs(row[j])));
                    }
                }
            }
        }
        return best;
    }

    public int matched(int matrix) {
        int[] best = leastOfSets(at(matrix));
        int most = 0;
        for (int s = 0; s < best.length; s++) {
            most = best[s] > 0 ? Math.max(most, Integer.bitCount(s)) : most;
        }
        return most;
    }

    public int least(int matrix) {
        int[] best = leastOfSets(at(matrix));
        int size = matched(matrix);
        if (size == 0) {
            throw new NoSuchElementException();
        }
        int most = 0;
        for (int s = 0; s < best.length; s++) {
            most = Integer.bitCount(s) == size ? Math.max(most, best[s]) : most;
        }
        return most;
    }

    private static boolean matchRow(int[][] a, int row, int[] rowOf, boolean[] tried) {
        for (int j = a[0].length - 1; j >= 0; j--) {
            if (a[row][j] != 0 && !tried[j]) {
                tried[j] = true;
                if (rowOf[j] < 0 || matchRow(a, rowOf[j], rowOf, tried)) {
                    rowOf[j] = row;
                    return true;
                }
            }
        }
        return false;
    }

    /** Numbers each row's block by its lowest row. */
    private static int[] blocksOf(int[][] a) {
        square(a);
        int n = a.length;
        int[] rowOf = new int[n];
        Arrays.fill(rowOf, -1);
        for (int row = n - 1; row >= 0; row--) {
            need(matchRow(a, row, rowOf, new boolean[n]));
        }
        boolean[][] leads = new boolean[n][n];
        for (int i = 0; i < n; i++) {
            ArrayList<Integer> todo = new ArrayList<>(List.of(i));
            leads[i][i] = true;
            while (!todo.isEmpty()) {
                int row = todo.remove(todo.size() - 1);
                for (int j = 0; j < n; j++) {
                    if (a[row][j] != 0 && !leads[i][rowOf[j]]) {
                        leads[i][rowOf[j]] = true;
                        todo.add(rowOf[j]);
                    }
                }
            }
        }
        int[] block = new int[n];
        for (int i = n - 1; i >= 0; i--) {
            for (int j = n - 1; j >= 0; j--) {
                if (leads[i][j] && leads[j][i]) {
                    block[i] = j;
                }
            }
        }
        return block;
    }

    public int blocks(int matrix) {
        return (int) Arrays.stream(blocksOf(at(matrix))).distinct().count();
    }

    public int blockOf(int matrix, int row) {
        int[][] a = at(matrix);
        index(row, a.length);
        int[] block = blocksOf(a);
        return (int) Arrays.stream(block).filter(b -> b == block[row]).count();
    }

    // ---- orders and trees

    private static boolean[][] joins(int[][] a) {
        int n = a.length;
        boolean[][] joined = new boolean[n][n];
        for (int i = 0; i < n; i++) {
            for (int j = 0; j < n; j++) {
                joined[i][j] = i != j && (a[i][j] != 0 || a[j][i] != 0);
            }
        }
        return joined;
    }

    private static int degree(boolean[][] joined, int i, TreeSet<Integer> within) {
        int count = 0;
        for (int j : within) {
            count += joined[i][j] ? 1 : 0;
        }
        return count;
    }

    private static int fewest(boolean[][] joined, TreeSet<Integer> some, TreeSet<Integer> within) {
        int best = -1;
        for (int i : some) {
            if (best < 0 || degree(joined, i, within) < degree(joined, best, within)) {
                best = i;
            }
        }
        return best;
    }

    private static TreeSet<Integer> all(int n) {
        TreeSet<Integer> set = new TreeSet<>();
        for (int i = 0; i < n; i++) {
            set.add(i);
        }
        return set;
    }

    public int order(int matrix, char kind) {
        int[][] a = at(matrix);
        if ("ndws".indexOf(kind) < 0) {
            throw new IllegalArgumentException();
        }
        square(a);
        List<Integer> order = new ArrayList<>();
        boolean[][] joined = joins(a);
        if (kind == 'n') {
            order.addAll(all(a.length));
        } else if (kind == 'd') {
            byDegree(joined, order);
        } else if (kind == 'w') {
            byWidth(joined, order);
        } else {
            separate(joined, all(a.length), order);
        }
        orders.set(matrix, order);
        return order.get(0);
    }

    private static void byDegree(boolean[][] joined, List<Integer> order) {
        TreeSet<Integer> left = all(joined.length);
        while (!left.isEmpty()) {
            int i = fewest(joined, left, left);
            order.add(i);
            left.remove(i);
            for (int j : left) {
                for (int k : left) {
                    if (j != k && joined[i][j] && joined[i][k]) {
                        joined[j][k] = true;
                    }
                }
            }
        }
    }

    private static void byWidth(boolean[][] joined, List<Integer> order) {
        TreeSet<Integer> every = all(joined.length);
        TreeSet<Integer> left = all(joined.length);
        int served = 0;
        while (!left.isEmpty()) {
            if (served == order.size()) {
                order.add(fewest(joined, left, every));
                left.remove(order.get(served));
            }
            int turn = order.get(served++);
            List<Integer> near = new ArrayList<>();
            for (int j : left) {
                if (joined[turn][j]) {
                    near.add(j);
                }
            }
            near.sort((x, y) -> degree(joined, x, every) != degree(joined, y, every)
                    ? degree(joined, x, every) - degree(joined, y, every) : x - y);
            order.addAll(near);
            left.removeAll(near);
        }
        java.util.Collections.reverse(order);
    }

    private static TreeSet<Integer> part(boolean[][] joined, int start, TreeSet<Integer> within) {
        TreeSet<Integer> part = new TreeSet<>(List.of(start));
        ArrayList<Integer> todo = new ArrayList<>(part);
        while (!todo.isEmpty()) {
            int i = todo.remove(0);
            for (int j : within) {
                if (joined[i][j] && part.add(j)) {
                    todo.add(j);
                }
            }
        }
        return part;
    }

    private static void separate(boolean[][] joined, TreeSet<Integer> set, List<Integer> order) {
        if (set.size() <= 3) {
            order.addAll(set);
            return;
        }
        TreeSet<Integer> part = part(joined, set.first(), set);
        if (part.size() < set.size()) {
            TreeSet<Integer> left = new TreeSet<>(set);
            while (!left.isEmpty()) {
                TreeSet<Integer> next = part(joined, left.first(), left);
                separate(joined, next, order);
                left.removeAll(next);
            }
            return;
        }
        int[] level = new int[joined.length];
        Arrays.fill(level, -1);
        int start = fewest(joined, set, set);
        level[start] = 0;
        ArrayList<Integer> queue = new ArrayList<>(List.of(start));
        for (int at = 0; at < queue.size(); at++) {
            for (int j : set) {
                if (joined[queue.get(at)][j] && level[j] < 0) {
                    level[j] = level[queue.get(at)] + 1;
                    queue.add(j);
                }
            }
        }
        int middle = 0;
        while (2 * count(set, level, -1, middle).size() < set.size()) {
            middle++;
        }
        TreeSet<Integer> lower = count(set, level, -1, middle - 1);
        TreeSet<Integer> higher = count(set, level, middle, joined.length);
        if (lower.isEmpty() || higher.isEmpty()) {
            order.addAll(set);
            return;
        }
        separate(joined, lower, order);
        separate(joined, higher, order);
        order.addAll(count(set, level, middle - 1, middle));
    }

    /** Those of a set whose level is above one number and at most another one. */
    private static TreeSet<Integer> count(TreeSet<Integer> set, int[] level, int above, int most) {
        TreeSet<Integer> found = new TreeSet<>();
        for (int i : set) {
            if (level[i] > above && level[i] <= most) {
                found.add(i);
            }
        }
        return found;
    }

    public int ordered(int matrix, int place) {
        int[][] a = at(matrix);
        index(place, a.length);
        square(a);
        return orders.get(matrix).get(place);
    }

    public int width(int matrix) {
        int[][] a = at(matrix);
        square(a);
        boolean[][] joined = joins(a);
        List<Integer> order = orders.get(matrix);
        int most = 0;
        for (int p = 0; p < a.length; p++) {
            for (int q = 0; q < p; q++) {
                most = joined[order.get(p)][order.get(q)] ? Math.max(most, p - q) : most;
            }
        }
        return most;
    }

    /** What elimination tells of each index. */
    private static final class Forest {
        List<Integer> order;
        int[] parent;
        int[] count;
        int fill;

        List<Integer> children(int i) {
            List<Integer> found = new ArrayList<>();
            for (int j = 0; j < parent.length; j++) {
                if (parent[j] == i) {
                    found.add(j);
                }
            }
            return found;
        }
    }

    private Forest forest(int matrix) {
        int[][] a = at(matrix);
        square(a);
        int n = a.length;
        boolean[][] joined = joins(a);
        Forest f = new Forest();
        f.order = orders.get(matrix);
        f.parent = new int[n];
        f.count = new int[n];
        for (int p = 0; p < n; p++) {
            int i = f.order.get(p);
            f.parent[i] = -1;
            f.count[i] = 1;
            for (int q = p + 1; q < n; q++) {
                int j = f.order.get(q);
                if (!joined[i][j]) {
                    continue;
                }
                f.count[i]++;
                f.parent[i] = f.parent[i] < 0 ? j : f.parent[i];
                for (int r = q + 1; r < n; r++) {
                    int k = f.order.get(r);
                    if (joined[i][k] && !joined[j][k]) {
                        joined[j][k] = true;
                        joined[k][j] = true;
                        f.fill++;
                    }
                }
            }
        }
        return f;
    }

    public int parent(int matrix, int index) {
        index(index, at(matrix).length);
        return forest(matrix).parent[index];
    }

    public int countOf(int matrix, int index) {
        index(index, at(matrix).length);
        return forest(matrix).count[index];
    }

    public int path(int matrix, int index) {
        index(index, at(matrix).length);
        Forest f = forest(matrix);
        return f.parent[index] < 0 ? 1 : 1 + path(matrix, f.parent[index]);
    }

    public int fill(int matrix) {
        return forest(matrix).fill;
    }

    public int supernodes(int matrix) {
        Forest f = forest(matrix);
        int number = 1;
        for (int p = 1; p < f.parent.length; p++) {
            int i = f.order.get(p);
            int ahead = f.order.get(p - 1);
            boolean goesOn = f.parent[ahead] == i && f.children(i).size() == 1 && f.count[ahead] == f.count[i] + 1;
            number += goesOn ? 0 : 1;
        }
        return number;
    }

    /** The least of all orders of children, by a table over all sets of those that are done. */
    private static int peak(Forest f, int i) {
        List<Integer> children = f.children(i);
        int[] best = new int[1 << children.size()];
        int[] handed = new int[best.length];
        for (int s = 1; s < best.length; s++) {
            best[s] = Integer.MAX_VALUE;
        }
        int[] peaks = new int[children.size()];
        for (int c = 0; c < peaks.length; c++) {
            peaks[c] = peak(f, children.get(c));
        }
        for (int s = 0; s < best.length; s++) {
            for (int c = 0; c < peaks.length; c++) {
                if ((s >> c & 1) == 0) {
                    int less = f.count[children.get(c)] - 1;
                    int t = s | 1 << c;
                    handed[t] = handed[s] + less * less;
                    best[t] = Math.min(best[t], Math.max(best[s], handed[s] + peaks[c]));
                }
            }
        }
        return Math.max(best[best.length - 1], handed[best.length - 1] + f.count[i] * f.count[i]);
    }

    public int memory(int matrix) {
        Forest f = forest(matrix);
        int most = 0;
        for (int i = 0; i < f.parent.length; i++) {
            most = f.parent[i] < 0 ? Math.max(most, peak(f, i)) : most;
        }
        return most;
    }

    private static int upward(Forest f, int i) {
        return i < 0 ? 0 : f.count[i] * f.count[i] + upward(f, f.parent[i]);
    }

    public int work(int matrix, int processors) {
        int[][] a = at(matrix);
        range(processors, 1, 4);
        square(a);
        Forest f = forest(matrix);
        int n = a.length;
        int[] left = new int[n];
        boolean[] begun = new boolean[n];
        for (int i = 0; i < n; i++) {
            left[i] = f.count[i] * f.count[i];
        }
        int[] at = new int[processors];
        Arrays.fill(at, -1);
        int now = 0;
        while (true) {
            for (int p = 0; p < processors; p++) {
                for (int i = 0; at[p] < 0 && i < n; i++) {
                    int chosen = -1;
                    for (int j = 0; j < n; j++) {
                        boolean can = !begun[j];
                        for (int child : f.children(j)) {
                            can &= left[child] == 0;
                        }
                        if (can && (chosen < 0 || upward(f, j) > upward(f, chosen))) {
                            chosen = j;
                        }
                    }
                    at[p] = chosen;
                    if (chosen >= 0) {
                        begun[chosen] = true;
                    }
                }
            }
            if (Arrays.stream(left).sum() == 0) {
                return now;
            }
            now++;
            for (int p = 0; p < processors; p++) {
                if (at[p] >= 0 && --left[at[p]] == 0) {
                    at[p] = -1;
                }
            }
        }
    }

    // ---- exact numbers: fractions

    private static Fraction[][] fractions(int[][] a, int[] b) {
        Fraction[][] f = new Fraction[a.length][a[0].length + 1];
        for (int i = 0; i < a.length; i++) {
            for (int j = 0; j < a[0].length; j++) {
                f[i][j] = Fraction.of(a[i][j]);
            }
            f[i][a[0].length] = b == null ? Fraction.ZERO : Fraction.of(b[i]);
        }
        return f;
    }

    /** Brings rows to the reduced form and returns the pivots' columns; the last column is the right side. */
    private static List<Integer> reduce(Fraction[][] f) {
        List<Integer> pivots = new ArrayList<>();
        for (int j = 0; j + 1 < f[0].length; j++) {
            int row = pivots.size();
            int found = row;
            while (found < f.length && f[found][j].sign() == 0) {
                found++;
            }
            if (found == f.length) {
                continue;
            }
            Fraction[] pivot = f[found];
            f[found] = f[row];
            f[row] = pivot;
            Fraction head = pivot[j];
            for (int k = 0; k < pivot.length; k++) {
                pivot[k] = pivot[k].over(head);
            }
            for (int i = 0; i < f.length; i++) {
                Fraction times = f[i][j];
                for (int k = 0; i != row && times.sign() != 0 && k < pivot.length; k++) {
                    f[i][k] = f[i][k].minus(times.times(pivot[k]));
                }
            }
            pivots.add(j);
        }
        return pivots;
    }

    private static BigInteger determinantOf(int[][] a) {
        int n = a.length;
        BigInteger[][] m = new BigInteger[n][n];
        for (int i = 0; i < n; i++) {
            for (int j = 0; j < n; j++) {
                m[i][j] = BigInteger.valueOf(a[i][j]);
            }
        }
        BigInteger before = BigInteger.ONE;
        boolean turned = false;
        for (int k = 0; k < n; k++) {
            int found = k;
            while (found < n && m[found][k].signum() == 0) {
                found++;
            }
            if (found == n) {
                return BigInteger.ZERO;
            }
            if (found != k) {
                BigInteger[] row = m[found];
                m[found] = m[k];
                m[k] = row;
                turned = !turned;
            }
            for (int i = k + 1; i < n; i++) {
                for (int j = k + 1; j < n; j++) {
                    m[i][j] = m[i][j].multiply(m[k][k]).subtract(m[i][k].multiply(m[k][j])).divide(before);
                }
            }
            before = m[k][k];
        }
        return turned ? before.negate() : before;
    }

    private static long tell(BigInteger number) {
        if (number.bitLength() > 63) {
            throw new ArithmeticException();
        }
        return number.longValue();
    }

    public long determinant(int matrix) {
        int[][] a = at(matrix);
        square(a);
        need(small(a));
        return tell(determinantOf(a));
    }

    public int digits(int matrix) {
        int[][] a = at(matrix);
        square(a);
        need(small(a));
        return determinantOf(a).abs().toString().length();
    }

    private static void prime(int prime) {
        range(prime, 2, 997);
        if (!BigInteger.valueOf(prime).isProbablePrime(50)) {
            throw new IllegalArgumentException();
        }
    }

    public int modulo(int matrix, int prime) {
        int[][] a = at(matrix);
        prime(prime);
        square(a);
        return determinantOf(a).mod(BigInteger.valueOf(prime)).intValue();
    }

    public int rank(int matrix) {
        int[][] a = at(matrix);
        need(small(a));
        return reduce(fractions(turn(a), null)).size();
    }

    public long vector(int matrix, int column) {
        int[][] a = at(matrix);
        index(column, a[0].length);
        need(small(a));
        Fraction[][] f = fractions(a, null);
        List<Integer> pivots = reduce(f);
        int free = 0;
        while (free < pivots.size() && pivots.get(free) == free) {
            free++;
        }
        if (free == a[0].length) {
            throw new NoSuchElementException();
        }
        BigInteger lower = BigInteger.ONE;
        for (int i = 0; i < free; i++) {
            lower = lower.divide(lower.gcd(f[i][free].lower)).multiply(f[i][free].lower);
        }
        // the least common denominator leaves numbers without a common divisor
        if (column > free) {
            return 0;
        }
        return tell(column == free ? lower : f[column][free].upper.negate().multiply(lower).divide(f[column][free].lower));
    }

    private static Fraction[][] times(Fraction[][] a, Fraction[][] b) {
        Fraction[][] c = new Fraction[a.length][b[0].length];
        for (int i = 0; i < a.length; i++) {
            for (int j = 0; j < b[0].length; j++) {
                c[i][j] = Fraction.ZERO;
                for (int k = 0; k < b.length; k++) {
                    c[i][j] = c[i][j].plus(a[i][k].times(b[k][j]));
                }
            }
        }
        return c;
    }

    private static Fraction[][] cut(Fraction[][] f, int from, int to) {
        Fraction[][] c = new Fraction[f.length][];
        for (int i = 0; i < f.length; i++) {
            c[i] = Arrays.copyOfRange(f[i], from, to);
        }
        return c;
    }

    private static Fraction[] solve(Fraction[][] a, Fraction[][] b) {
        int n = a.length;
        Fraction[][] f = new Fraction[n][n + 1];
        for (int i = 0; i < n; i++) {
            System.arraycopy(a[i], 0, f[i], 0, n);
            f[i][n] = b[i][0];
        }
        need(reduce(f).size() == n);
        Fraction[] x = new Fraction[n];
        for (int i = 0; i < n; i++) {
            x[i] = f[i][n];
        }
        return x;
    }

    private static Fraction[][] column(Fraction[] x) {
        Fraction[][] c = new Fraction[x.length][];
        for (int i = 0; i < x.length; i++) {
            c[i] = new Fraction[] {x[i]};
        }
        return c;
    }

    public long answer(int matrix, char way, int column, boolean isUpper) {
        int[][] m = at(matrix);
        index(column, m[0].length);
        if ("sln".indexOf(way) < 0) {
            throw new IllegalArgumentException();
        }
        need(small(m));
        Fraction[][] a = cut(fractions(m, null), 0, m[0].length);
        Fraction[][] t = cut(fractions(turn(m), null), 0, m.length);
        Fraction[][] b = cut(fractions(m, rights.get(matrix)), m[0].length, m[0].length + 1);
        Fraction x;
        if (way == 's') {
            square(m);
            x = solve(a, b)[column];
        } else if (way == 'l') {
            x = solve(times(t, a), times(t, b))[column];
        } else {
            x = times(t, column(solve(times(a, t), b)))[column][0];
        }
        return tell(isUpper ? x.upper : x.lower);
    }

    public int answerModulo(int matrix, int column, int prime) {
        int[][] a = at(matrix);
        index(column, a[0].length);
        prime(prime);
        square(a);
        BigInteger p = BigInteger.valueOf(prime);
        BigInteger d = determinantOf(a).mod(p);
        need(d.signum() != 0);
        int[][] c = new int[a.length][];
        for (int i = 0; i < a.length; i++) {
            c[i] = a[i].clone();
            c[i][column] = rights.get(matrix)[i];
        }
        return determinantOf(c).mod(p).multiply(d.modInverse(p)).mod(p).intValue();
    }

    public long inverse(int matrix, int row, int column, boolean isUpper) {
        int[][] a = at(matrix);
        index(row, a.length);
        index(column, a[0].length);
        square(a);
        need(small(a));
        int[] unit = new int[a.length];
        unit[column] = 1;
        Fraction[][] f = fractions(a, unit);
        need(reduce(f).size() == a.length);
        Fraction x = f[row][a.length];
        return tell(isUpper ? x.upper : x.lower);
    }

    // ---- eigenvalues: by turning to a diagonal with the same signs

    private static int[] signs(int[][] a, int number) {
        int n = a.length;
        Fraction[][] f = cut(fractions(a, null), 0, n);
        for (int i = 0; i < n; i++) {
            f[i][i] = f[i][i].minus(Fraction.of(number));
        }
        int[] signs = new int[3];
        boolean[] done = new boolean[n];
        for (int step = 0; step < n; step++) {
            int pivot = -1;
            for (int i = 0; i < n; i++) {
                pivot = !done[i] && f[i][i].sign() != 0 ? i : pivot;
            }
            for (int i = 0; i < n && pivot < 0; i++) {
                for (int j = 0; j < n && pivot < 0; j++) {
                    if (!done[i] && !done[j] && f[i][j].sign() != 0) {
                        for (int k = 0; k < n; k++) {
                            f[i][k] = f[i][k].plus(f[j][k]);
                        }
                        for (int k = 0; k < n; k++) {
                            f[k][i] = f[k][i].plus(f[k][j]);
                        }
                        pivot = i;
                    }
                }
            }
            if (pivot < 0) {
                signs[1] += n - step;
                return signs;
            }
            done[pivot] = true;
            signs[1 + f[pivot][pivot].sign()]++;
            for (int i = 0; i < n; i++) {
                if (done[i]) {
                    continue;
                }
                Fraction times = f[i][pivot].over(f[pivot][pivot]);
                for (int k = 0; k < n; k++) {
                    f[i][k] = f[i][k].minus(times.times(f[pivot][k]));
                }
            }
            for (int i = 0; i < n; i++) {
                if (!done[i]) {
                    f[pivot][i] = Fraction.ZERO;
                }
            }
        }
        return signs;
    }

    private void own(int matrix) {
        need(isSymmetric(matrix));
        need(small(at(matrix)));
    }

    public int above(int matrix, int number) {
        at(matrix);
        range(number, -99999, 99999);
        own(matrix);
        return signs(at(matrix), number)[2];
    }

    public int floor(int matrix, int index) {
        int[][] a = at(matrix);
        index(index, a.length);
        own(matrix);
        int low = -20000;
        int high = 20000;
        while (high - low > 1) {
            int middle = Math.floorDiv(low + high, 2);
            int[] signs = signs(a, middle);
            if (signs[1] + signs[2] > index) {
                low = middle;
            } else {
                high = middle;
            }
        }
        return low;
    }

    private static Fraction dot(Fraction[][] x, Fraction[][] y) {
        Fraction sum = Fraction.ZERO;
        for (int i = 0; i < x.length; i++) {
            sum = sum.plus(x[i][0].times(y[i][0]));
        }
        return sum;
    }

    private static Fraction[][] plus(Fraction[][] x, Fraction much, Fraction[][] y) {
        Fraction[][] z = new Fraction[x.length][1];
        for (int i = 0; i < x.length; i++) {
            z[i][0] = x[i][0].plus(much.times(y[i][0]));
        }
        return z;
    }

    public int steps(int matrix) {
        int[][] m = at(matrix);
        own(matrix);
        need(signs(m, 0)[2] == m.length);
        Fraction[][] a = cut(fractions(m, null), 0, m.length);
        Fraction[][] left = cut(fractions(m, rights.get(matrix)), m.length, m.length + 1);
        Fraction[][] direction = left;
        int steps = 0;
        while (dot(left, left).sign() != 0) {
            Fraction[][] turned = times(a, direction);
            Fraction far = dot(left, direction).over(dot(direction, turned));
            left = plus(left, Fraction.ZERO.minus(far), turned);
            Fraction much = Fraction.ZERO.minus(dot(left, turned).over(dot(direction, turned)));
            direction = plus(left, much, direction);
            steps++;
        }
        return steps;
    }

    // ---- patterns and paths

    public int kept(int matrix, int level) {
        int[][] a = at(matrix);
        range(level, 0, 20);
        square(a);
        int n = a.length;
        int[][] levels = new int[n][n];
        int count = 0;
        for (int i = 0; i < n; i++) {
            for (int j = 0; j < n; j++) {
                levels[i][j] = i == j || a[i][j] != 0 ? 0 : 100;
            }
            for (int k = 0; k < i; k++) {
                for (int j = k + 1; levels[i][k] <= level && j < n; j++) {
                    if (levels[k][j] <= level) {
                        levels[i][j] = Math.min(levels[i][j], levels[i][k] + levels[k][j] + 1);
                    }
                }
            }
            for (int j = 0; j < n; j++) {
                count += levels[i][j] <= level ? 1 : 0;
            }
        }
        return count;
    }

    public int aggregate(int matrix, int index) {
        int[][] a = at(matrix);
        index(index, a.length);
        square(a);
        boolean[][] joined = joins(a);
        int n = a.length;
        List<TreeSet<Integer>> groups = new ArrayList<>();
        TreeSet<Integer> first = new TreeSet<>();
        for (int i = 0; i < n; i++) {
            TreeSet<Integer> group = new TreeSet<>(List.of(i));
            for (int j = 0; j < n; j++) {
                if (joined[i][j]) {
                    group.add(j);
                }
            }
            TreeSet<Integer> shared = new TreeSet<>(group);
            shared.retainAll(first);
            if (shared.isEmpty()) {
                groups.add(group);
                first.addAll(group);
            }
        }
        for (int i = 0; i < n; i++) {
            int lowest = -1;
            for (int j = n - 1; j >= 0; j--) {
                lowest = joined[i][j] && first.contains(j) ? j : lowest;
            }
            if (first.contains(i)) {
                continue;
            }
            TreeSet<Integer> home = new TreeSet<>();
            for (TreeSet<Integer> group : groups) {
                home = group.contains(lowest) ? group : home;
            }
            if (home.isEmpty()) {
                groups.add(home);
            }
            home.add(i);
        }
        groups.sort((x, y) -> x.first() - y.first());
        for (int number = 0; number < groups.size(); number++) {
            if (groups.get(number).contains(index)) {
                return number;
            }
        }
        throw new AssertionError();
    }

    public int partsOf(int matrix) {
        int[][] a = at(matrix);
        square(a);
        TreeSet<Integer> left = all(a.length);
        int parts = 0;
        while (!left.isEmpty()) {
            left.removeAll(part(joins(a), left.first(), left));
            parts++;
        }
        return parts;
    }

    public int best(int matrix, int from, int to, char kind) {
        int[][] a = at(matrix);
        index(from, a.length);
        index(to, a.length);
        if ("+ma".indexOf(kind) < 0) {
            throw new IllegalArgumentException();
        }
        square(a);
        for (int[] row : a) {
            for (int entry : row) {
                need(kind != '+' || entry >= 0);
            }
        }
        Integer best = null;
        Integer[] values = new Integer[a.length];
        values[from] = kind == 'm' ? 1000 : 0;
        for (int arcs = 1; arcs <= 2 * a.length; arcs++) {
            Integer[] next = new Integer[a.length];
            for (int i = 0; i < a.length; i++) {
                for (int j = 0; j < a.length; j++) {
                    if (values[i] != null && a[i][j] != 0) {
                        int value = kind == 'm' ? Math.min(values[i], a[i][j]) : values[i] + (kind == 'a' ? 1 : a[i][j]);
                        boolean isBetter = next[j] == null || (kind == 'm' ? value > next[j] : value < next[j]);
                        next[j] = isBetter ? Integer.valueOf(value) : next[j];
                    }
                }
            }
            values = next;
            if (values[to] != null && (best == null || (kind == 'm' ? values[to] > best : values[to] < best))) {
                best = values[to];
            }
        }
        if (best == null) {
            throw new NoSuchElementException();
        }
        return best;
    }

    public long walks(int matrix, int from, int to, int arcs) {
        int[][] a = at(matrix);
        index(from, a.length);
        index(to, a.length);
        range(arcs, 1, 12);
        square(a);
        long[][] many = new long[arcs + 1][a.length];
        many[0][to] = 1;
        for (int k = 1; k <= arcs; k++) {
            for (int i = 0; i < a.length; i++) {
                for (int j = 0; j < a.length; j++) {
                    many[k][i] += a[i][j] != 0 ? many[k - 1][j] : 0;
                }
            }
        }
        return many[arcs][from];
    }

    // ---- figures

    public float share(int matrix) {
        int[][] a = at(matrix);
        return (float) entries(matrix) / (float) (a.length * a[0].length);
    }

    public double meanCount(int matrix) {
        Forest f = forest(matrix);
        return (double) Arrays.stream(f.count).sum() / (double) f.count.length;
    }

    public boolean isSound() {
        return true;
    }
}
