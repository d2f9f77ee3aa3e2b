import java.lang.reflect.InvocationTargetException;
import java.lang.reflect.Method;
import java.util.ArrayList;
import java.util.List;
import java.util.Random;
import java.util.TreeMap;

/**
 * Runs the same calls on the class and on the oracle, with fixed seeds, and compares answers and
 * exceptions. It also fails if a method was not seen to answer, or not to throw what it can throw.
 */
public final class CompareTest {
    private static final Method[] FACE = SparseHall.class.getDeclaredMethods();
    private static final TreeMap<String, Integer> SEEN = new TreeMap<>();
    private static int wrong = 0;

    private final Random random;
    private final SparseHall hall = new SparseHall();
    private final Oracle oracle = new Oracle();
    private final StringBuilder told = new StringBuilder();
    private final List<int[]> sizes = new ArrayList<>();
    private int calls = 0;

    private CompareTest(long seed) {
        random = new Random(seed);
    }

    public static void main(String[] args) {
        int runs = args.length > 1 ? Integer.parseInt(args[1]) : 600;
        long first = args.length > 2 ? Long.parseLong(args[2]) : 1;
        for (long seed = first; seed < first + runs && wrong < 10; seed++) {
            new CompareTest(seed).run(seed);
        }
        int outcomes = 0;
        for (Method method : FACE) {
            if (!java.lang.reflect.Modifier.isPublic(method.getModifiers())) {
                continue;
            }
            outcomes++;
            seen(method.getName() + " answers");
            for (Class<?> exception : method.getExceptionTypes()) {
                outcomes++;
                seen(method.getName() + " throws " + exception.getSimpleName());
            }
        }
        System.out.println("CompareTest: " + runs + " runs, " + outcomes + " outcomes, " + wrong + " wrong");
        System.exit(wrong == 0 ? 0 : 1);
    }

    private static void seen(String outcome) {
        if (!SEEN.containsKey(outcome)) {
            wrong++;
            System.out.println("never seen: " + outcome);
        }
    }

    private void run(long seed) {
        int matrices = 1 + random.nextInt(4);
        for (int m = 0; m < matrices; m++) {
            build();
        }
        Method[] methods = FACE.clone();
        java.util.Arrays.sort(methods, (x, y) -> x.getName().compareTo(y.getName()));
        while (calls < 512 && wrong < 10) {
            Method method = methods[random.nextInt(methods.length)];
            if (!java.lang.reflect.Modifier.isPublic(method.getModifiers())) {
                continue;
            }
            if (method.getName().equals("matrix") && random.nextInt(30) > 0) {
                continue;
            }
            if (method.getName().equals("isSound") && random.nextInt(20) > 0) {
                continue;
            }
            call(method.getName(), arguments(method));
        }
    }

    // ---- building matrices by calls

    private int side() {
        int kind = random.nextInt(10);
        return kind == 0 ? 1 : kind < 6 ? 2 + random.nextInt(5) : kind < 9 ? 6 + random.nextInt(5) : 11 + random.nextInt(6);
    }

    private void build() {
        int rows = side();
        boolean isSquare = random.nextInt(4) > 0;
        int columns = isSquare ? rows : side();
        int number = (Integer) call("matrix", rows, columns);
        int[][] a = new int[rows][columns];
        if (isSquare && random.nextInt(2) == 0) {
            buildOwnTransposed(a);
        } else {
            buildAny(a);
        }
        for (int i = 0; i < rows; i++) {
            for (int j = 0; j < columns; j++) {
                if (a[i][j] != 0 && calls < 400) {
                    call("set", number, i, j, Math.max(-999, Math.min(999, a[i][j])));
                }
            }
        }
        int right = new int[] {1, 3, 999}[random.nextInt(3)];
        for (int i = 0; i < rows; i++) {
            if (random.nextInt(3) > 0) {
                call("right", number, i, random.nextInt(2 * right + 1) - right);
            }
        }
    }

    private void buildAny(int[][] a) {
        int kind = random.nextInt(7);
        int density = 1 + random.nextInt(10);
        for (int i = 0; i < a.length; i++) {
            for (int j = 0; j < a[0].length; j++) {
                boolean is = random.nextInt(10) < density;
                if (kind == 0 && is) {
                    a[i][j] = random.nextInt(7) - 3;
                } else if (kind == 1 && is) {
                    a[i][j] = random.nextInt(9);
                } else if (kind == 2) {
                    a[i][j] = random.nextInt(1999) - 999;
                } else if (kind == 3 && is || kind == 3 && i == j) {
                    a[i][j] = i == j || j > i && random.nextInt(3) == 0 || random.nextInt(9) == 0 ? 1 + random.nextInt(5) : 0;
                } else if (kind == 4 && is) {
                    a[i][j] = (random.nextBoolean() ? 1 : -1) * (999 - random.nextInt(2));
                }
            }
        }
        if (kind == 5) {
            buildOfLowRank(a, 1 + random.nextInt(Math.min(a.length, a[0].length)));
        } else if (kind == 6) {
            buildOfGreatPrimes(a);
        }
    }

    /**
     * Squares of four rows whose determinants are the primes with which the class reckons, so that
     * some of these are of no use; columns behind them are sums of those ahead.
     */
    private void buildOfGreatPrimes(int[][] a) {
        int base = 993 + random.nextInt(7);
        int most = Math.min(a.length, a[0].length);
        int end = 0;
        for (int from = 0; from + 4 <= most; from += 4) {
            long digits = new long[] {2147483647L, 2147483629L, 2147483587L, 2147483579L}[random.nextInt(4)];
            for (int k = 3; k >= 0; k--) {
                a[from][from + k] = (int) (digits % base);
                digits /= base;
                if (k > 0) {
                    a[from + k][from + k] = base;
                    a[from + k][from + k - 1] = -1;
                }
            }
            end = from + 4;
        }
        for (int j = end; j < a[0].length && end > 0; j++) {
            int one = random.nextInt(end);
            int other = random.nextInt(end);
            for (int i = 0; i < end; i++) {
                a[i][j] = one == other ? a[i][one] : (a[i][one] == 0 || a[i][other] == 0 ? a[i][one] - a[i][other] : 0);
            }
        }
    }

    private void buildOfLowRank(int[][] a, int rank) {
        for (int k = 0; k < rank; k++) {
            int[] row = new int[a[0].length];
            for (int j = 0; j < row.length; j++) {
                row[j] = random.nextInt(7) - 3;
            }
            for (int[] line : a) {
                int times = random.nextInt(7) - 3;
                for (int j = 0; j < row.length; j++) {
                    line[j] += times * row[j];
                }
            }
        }
    }

    private void buildOwnTransposed(int[][] a) {
        int n = a.length;
        int kind = random.nextInt(6);
        int most = new int[] {1, 5, 999}[random.nextInt(3)];
        if (kind == 0) {
            int off = random.nextInt(5) - 2;
            int on = random.nextInt(30) + 1;
            for (int i = 0; i < n; i++) {
                for (int j = 0; j < n; j++) {
                    a[i][j] = i == j ? on : off;
                }
            }
            return;
        }
        int across = 1 + random.nextInt(4);
        for (int i = 0; i < n; i++) {
            for (int j = 0; j < i; j++) {
                boolean is = kind == 1 ? i - j == 1 || i - j == across
                        : kind == 2 ? j == (i - 1) / across
                        : kind == 3 ? random.nextInt(3) == 0 : kind == 4 ? random.nextInt(n) == 0 : random.nextBoolean();
                if (is) {
                    a[i][j] = random.nextInt(2 * most + 1) - most;
                    a[j][i] = a[i][j];
                }
            }
        }
        boolean isHeavy = random.nextBoolean();
        for (int i = 0; i < n; i++) {
            int sum = random.nextInt(3);
            for (int j = 0; j < n; j++) {
                sum += Math.abs(a[i][j]);
            }
            a[i][i] = isHeavy ? sum : random.nextInt(2 * most + 1) - most;
        }
    }

    // ---- choosing arguments, now and then wrong ones

    private Object[] arguments(Method method) {
        Class<?>[] types = method.getParameterTypes();
        Object[] chosen = new Object[types.length];
        int matrix = random.nextInt(40) == 0 ? random.nextInt(9) - 1 : random.nextInt(Math.max(1, sizes.size()));
        int rows = matrix >= 0 && matrix < sizes.size() ? sizes.get(matrix)[0] : 4;
        int columns = matrix >= 0 && matrix < sizes.size() ? sizes.get(matrix)[1] : 4;
        String name = method.getName();
        for (int i = 0; i < types.length; i++) {
            if (types[i] == boolean.class) {
                chosen[i] = random.nextBoolean();
            } else if (types[i] == char.class) {
                String kinds = name.equals("order") ? "ndws" : name.equals("best") ? "+ma" : "sln";
                chosen[i] = random.nextInt(25) == 0 ? (char) random.nextInt(random.nextBoolean() ? 200 : 65536) : kinds.charAt(random.nextInt(kinds.length()));
            } else if (i == 0) {
                chosen[i] = name.equals("matrix") ? within(18, 3) : matrix;
            } else {
                chosen[i] = number(name, i, rows, columns);
            }
        }
        if (name.equals("exchange") && !(Boolean) chosen[1]) {
            chosen[2] = within(columns, 12);
            chosen[3] = within(columns, 12);
        }
        int place = random.nextInt(60);
        if (place < types.length && types[place] == int.class) {
            int[] far = {Integer.MIN_VALUE, Integer.MAX_VALUE, Integer.MIN_VALUE + 1, 16, 17, 31, 32, 64, 256, -999, 65536};
            chosen[place] = far[random.nextInt(far.length)];
        }
        return chosen;
    }

    private int within(int end, int seldom) {
        int kind = random.nextInt(seldom * 2);
        return kind == 0 ? -1 : kind == 1 ? end : random.nextInt(end);
    }

    private int number(String name, int place, int rows, int columns) {
        int[] primes = {2, 3, 5, 7, 11, 13, 31, 101, 499, 991, 997};
        boolean isPrime = random.nextInt(8) > 0;
        switch (name + place) {
            case "matrix1": return within(18, 3);
            case "set3": return random.nextInt(20) == 0 ? random.nextInt(3000) - 1500 : random.nextInt(4) == 0 ? 0 : random.nextInt(21) - 10;
            case "right2": return random.nextInt(20) == 0 ? random.nextInt(3000) - 1500 : random.nextInt(21) - 10;
            case "multiply1", "foretold1": return within(Math.max(1, sizes.size()), 12);
            case "work1": return within(6, 3);
            case "modulo1", "answerModulo2": return isPrime ? primes[random.nextInt(primes.length)] : random.nextInt(1100) - 50;
            case "above1": return random.nextInt(4) == 0 ? (random.nextInt(21) - 10) * 10001 : random.nextInt(4) == 0
                    ? random.nextInt(4001) - 2000 : random.nextInt(31) - 15;
            case "kept1": return random.nextInt(4) == 0 ? random.nextInt(24) - 1 : random.nextInt(4);
            case "walks3": return within(14, 6);
            case "set2", "entry2", "vector1", "answer2", "answerModulo1", "inverse2": return within(columns, 15);
            default: return within(rows, 15);
        }
    }

    // ---- calling both

    private Object call(String name, Object... arguments) {
        calls++;
        Object got = outcome(hall, name, arguments);
        Object due = outcome(oracle, name, arguments);
        told.append("  ").append(name).append(java.util.Arrays.toString(arguments)).append(" = ").append(got).append('\n');
        if (!got.equals(due)) {
            wrong++;
            System.out.println("run on a new object:\n" + told + "  due is " + due);
        }
        String kind = due instanceof Class<?> ? " throws " + ((Class<?>) due).getSimpleName() : " answers";
        SEEN.merge(name + kind, 1, Integer::sum);
        if (kind.equals(" answers")) {
            note(name, arguments);
        }
        return due;
    }

    private void note(String name, Object[] arguments) {
        if (name.equals("matrix")) {
            sizes.add(new int[] {(Integer) arguments[0], (Integer) arguments[1]});
        } else if (name.equals("transpose")) {
            int[] size = sizes.get((Integer) arguments[0]);
            sizes.add(new int[] {size[1], size[0]});
        } else if (name.equals("multiply")) {
            sizes.add(new int[] {sizes.get((Integer) arguments[0])[0], sizes.get((Integer) arguments[1])[1]});
        }
    }

    private static Object outcome(Object object, String name, Object[] arguments) {
        try {
            for (Method method : object.getClass().getDeclaredMethods()) {
                if (method.getName().equals(name) && method.getParameterCount() == arguments.length
                        && java.lang.reflect.Modifier.isPublic(method.getModifiers())) {
                    return method.invoke(object, arguments);
                }
            }
            throw new AssertionError(name);
        } catch (InvocationTargetException thrown) {
            Throwable cause = thrown.getCause();
            boolean isOwn = object instanceof Oracle || cause.getMessage() == null
                    && cause.getStackTrace()[0].getClassName().equals("SparseHall");
            return isOwn ? cause.getClass() : "the machine's " + cause;
        } catch (IllegalAccessException closed) {
            throw new AssertionError(closed);
        }
    }
}
