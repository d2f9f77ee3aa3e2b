import java.util.NoSuchElementException;

/** For each promise of the document: ordinary inputs, the edges that it names, and wrong inputs. */
public final class PromiseTest {
    /** A call that is to throw. */
    private interface Call {
        Object run();
    }

    private static final Class<? extends RuntimeException> INDEX = IndexOutOfBoundsException.class;
    private static final Class<? extends RuntimeException> ARGUMENT = IllegalArgumentException.class;
    private static final Class<? extends RuntimeException> STATE = IllegalStateException.class;
    private static final Class<? extends RuntimeException> UNSUPPORTED = UnsupportedOperationException.class;
    private static final Class<? extends RuntimeException> NO_ELEMENT = NoSuchElementException.class;
    private static final Class<? extends RuntimeException> ARITHMETIC = ArithmeticException.class;

    private static int promise = 0;
    private static int checks = 0;
    private static int wrong = 0;

    public static void main(String[] args) {
        for (promise = 1; promise <= 44; promise++) {
            int before = checks;
            run(promise);
            if (checks == before) {
                wrong++;
                System.out.println("promise " + promise + " has no test");
            }
        }
        System.out.println("PromiseTest: " + checks + " checks, " + wrong + " wrong");
        System.exit(wrong == 0 ? 0 : 1);
    }

    private static void run(int number) {
        switch (number) {
            case 1: newObject(); break;
            case 2: matrix(); break;
            case 3: set(); break;
            case 4: entry(); break;
            case 5: right(); break;
            case 6: exchange(); break;
            case 7: entries(); break;
            case 8: transpose(); break;
            case 9: multiply(); break;
            case 10: foretold(); break;
            case 11: isSymmetric(); break;
            case 12: matched(); break;
            case 13: least(); break;
            case 14: blocks(); break;
            case 15: blockOf(); break;
            case 16: order(); break;
            case 17: ordered(); break;
            case 18: width(); break;
            case 19: parent(); break;
            case 20: countOf(); break;
            case 21: path(); break;
            case 22: fill(); break;
            case 23: supernodes(); break;
            case 24: memory(); break;
            case 25: work(); break;
            case 26: determinant(); break;
            case 27: digits(); break;
            case 28: modulo(); break;
            case 29: rank(); break;
            case 30: vector(); break;
            case 31: answer(); break;
            case 32: answerModulo(); break;
            case 33: inverse(); break;
            case 34: above(); break;
            case 35: floor(); break;
            case 36: steps(); break;
            case 37: kept(); break;
            case 38: aggregate(); break;
            case 39: partsOf(); break;
            case 40: best(); break;
            case 41: walks(); break;
            case 42: share(); break;
            case 43: meanCount(); break;
            default: isSound(); break;
        }
    }

    // ---- helpers

    private static void due(Object got, Object want) {
        checks++;
        if (!got.equals(want)) {
            wrong++;
            System.out.println("promise " + promise + ", " + line() + ": answered " + got + ", due is " + want);
        }
    }

    private static void throwing(Class<? extends RuntimeException> want, Call call) {
        checks++;
        Object got;
        try {
            got = call.run();
        } catch (RuntimeException thrown) {
            got = thrown.getMessage() == null ? thrown.getClass() : thrown.toString();
        }
        if (!got.equals(want)) {
            wrong++;
            System.out.println("promise " + promise + ", " + line() + ": answered " + got + ", due is " + want);
        }
    }

    private static String line() {
        StackTraceElement at = new Throwable().getStackTrace()[2];
        return at.getMethodName() + " line " + at.getLineNumber();
    }

    private static int put(SparseHall x, int[]... a) {
        int number = x.matrix(a.length, a[0].length);
        for (int i = 0; i < a.length; i++) {
            for (int j = 0; j < a[0].length; j++) {
                x.set(number, i, j, a[i][j]);
            }
        }
        return number;
    }

    private static SparseHall of(int[]... a) {
        SparseHall x = new SparseHall();
        put(x, a);
        return x;
    }

    private static void rights(SparseHall x, int... b) {
        for (int i = 0; i < b.length; i++) {
            x.right(0, i, b[i]);
        }
    }

    private static int[] row(int... entries) {
        return entries;
    }

    /** A matrix of zeros in which pairs of indices are joined, by a 1 on both sides. */
    private static SparseHall joined(int size, int... pairs) {
        SparseHall x = new SparseHall();
        x.matrix(size, size);
        for (int i = 0; i < pairs.length; i += 2) {
            x.set(0, pairs[i], pairs[i + 1], 1);
            x.set(0, pairs[i + 1], pairs[i], 1);
        }
        return x;
    }

    private static String told(SparseHall x, int size) {
        StringBuilder order = new StringBuilder();
        for (int place = 0; place < size; place++) {
            order.append(place == 0 ? "" : " ").append(x.ordered(0, place));
        }
        return order.toString();
    }

    /** What every method asks of its matrix's number. */
    private static void needsMatrix(java.util.function.BiFunction<SparseHall, Integer, Object> call) {
        SparseHall x = of(row(2, 1), row(1, 2));
        for (int number : new int[] {-1, 1, 6, Integer.MAX_VALUE, Integer.MIN_VALUE}) {
            throwing(INDEX, () -> call.apply(x, number));
        }
        throwing(INDEX, () -> call.apply(new SparseHall(), 0));
    }

    private static void needsIndex(java.util.function.BiFunction<SparseHall, Integer, Object> call) {
        SparseHall x = of(row(2, 1), row(1, 2));
        SparseHall wide = of(row(1, 2, 3), row(4, 5, 6));
        for (int index : new int[] {-1, 2, 16, Integer.MAX_VALUE, Integer.MIN_VALUE}) {
            throwing(INDEX, () -> call.apply(x, index));
            throwing(INDEX, () -> call.apply(wide, index));
        }
        throwing(UNSUPPORTED, () -> call.apply(wide, 1));
    }

    private static void needsSquare(java.util.function.Function<SparseHall, Object> call) {
        throwing(UNSUPPORTED, () -> call.apply(of(row(1, 2, 3), row(4, 5, 6))));
        throwing(UNSUPPORTED, () -> call.apply(of(row(1, 2), row(4, 5), row(3, 3))));
    }

    private static SparseHall eye(int size) {
        SparseHall x = new SparseHall();
        x.matrix(size, size);
        for (int i = 0; i < size; i++) {
            x.set(0, i, i, 1);
        }
        return x;
    }

    private static SparseHall diagonal(int... entries) {
        SparseHall x = new SparseHall();
        x.matrix(entries.length, entries.length);
        for (int i = 0; i < entries.length; i++) {
            x.set(0, i, i, entries[i]);
        }
        return x;
    }

    /**
     * Rows whose determinant is the product of two of the great primes with which the class reckons,
     * so that it has to do without them; the column behind is the last one but one, twice.
     */
    private static SparseHall ofGreatPrimes(boolean isWide) {
        SparseHall x = new SparseHall();
        x.matrix(8, isWide ? 9 : 8);
        for (int from = 0; from < 8; from += 4) {
            long digits = from == 0 ? 2147483647L : 2147483629L;
            for (int k = 3; k >= 0; k--) {
                x.set(0, from, from + k, (int) (digits % 999));
                digits /= 999;
                if (k > 0) {
                    x.set(0, from + k, from + k, 999);
                    x.set(0, from + k, from + k - 1, -1);
                }
            }
        }
        if (isWide) {
            x.set(0, 4, 8, x.entry(0, 4, 4));
            x.set(0, 5, 8, -1);
        }
        return x;
    }

    /** The greatest square matrix: a ring of 16, with ones in the diagonal. */
    private static SparseHall ring() {
        SparseHall x = eye(16);
        for (int i = 0; i < 16; i++) {
            int next = (i + 1) % 16;
            x.set(0, i, next, 1);
            x.set(0, next, i, 1);
        }
        return x;
    }

    /** The greatest matrix for exact numbers, with 2 in the diagonal and -1 beside it. */
    private static SparseHall band() {
        SparseHall x = diagonal(2, 2, 2, 2, 2, 2, 2, 2, 2, 2);
        for (int i = 0; i < 9; i++) {
            x.set(0, i, i + 1, -1);
            x.set(0, i + 1, i, -1);
        }
        return x;
    }

    // ---- matrices

    private static void newObject() {
        SparseHall x = new SparseHall();
        throwing(INDEX, () -> x.entries(0));
        due(x.isSound(), true);
        due(x.matrix(1, 1), 0);
        SparseHall y = new SparseHall();
        throwing(INDEX, () -> y.entries(0));
    }

    private static void matrix() {
        SparseHall x = new SparseHall();
        for (int wrongSize : new int[] {0, -1, 17, Integer.MAX_VALUE, Integer.MIN_VALUE}) {
            throwing(ARGUMENT, () -> x.matrix(wrongSize, 1));
            throwing(ARGUMENT, () -> x.matrix(1, wrongSize));
        }
        due(x.matrix(1, 16), 0);
        due(x.matrix(16, 1), 1);
        due(x.matrix(16, 16), 2);
        due(x.entries(2), 0);
        due(x.entry(0, 0, 15), 0);
        due(x.right(1, 15, 1), 0);
        due(x.matrix(1, 1), 3);
        due(x.matrix(2, 3), 4);
        due(x.matrix(3, 2), 5);
        throwing(STATE, () -> x.matrix(1, 1));
        throwing(ARGUMENT, () -> x.matrix(0, 1));
    }

    private static void set() {
        SparseHall x = new SparseHall();
        x.matrix(2, 3);
        due(x.set(0, 1, 2, 999), 0);
        due(x.set(0, 1, 2, -999), 999);
        due(x.set(0, 1, 2, 0), -999);
        due(x.set(0, 0, 0, 7), 0);
        throwing(ARGUMENT, () -> x.set(0, 0, 0, 1000));
        throwing(ARGUMENT, () -> x.set(0, 0, 0, -1000));
        throwing(ARGUMENT, () -> x.set(0, 0, 0, Integer.MIN_VALUE));
        throwing(INDEX, () -> x.set(0, 2, 0, 1000));
        throwing(INDEX, () -> x.set(0, -1, 0, 1));
        throwing(INDEX, () -> x.set(0, 0, 3, 1));
        throwing(INDEX, () -> x.set(0, 0, -1, 1));
        due(x.entry(0, 0, 0), 7);
        due(x.entries(0), 1);
        needsMatrix((y, m) -> y.set(m, 0, 0, 1));
    }

    private static void entry() {
        SparseHall x = of(row(1, 2, 3), row(4, 5, -6));
        due(x.entry(0, 0, 2), 3);
        due(x.entry(0, 1, 2), -6);
        due(x.entry(0, 1, 0), 4);
        throwing(INDEX, () -> x.entry(0, 2, 0));
        throwing(INDEX, () -> x.entry(0, -1, 0));
        throwing(INDEX, () -> x.entry(0, 0, 3));
        throwing(INDEX, () -> x.entry(0, 0, -1));
        needsMatrix((y, m) -> y.entry(m, 0, 0));
    }

    private static void right() {
        SparseHall x = new SparseHall();
        x.matrix(2, 3);
        due(x.right(0, 1, 999), 0);
        due(x.right(0, 1, -999), 999);
        due(x.right(0, 1, 5), -999);
        throwing(ARGUMENT, () -> x.right(0, 0, 1000));
        throwing(ARGUMENT, () -> x.right(0, 0, -1000));
        throwing(INDEX, () -> x.right(0, 2, 1));
        throwing(INDEX, () -> x.right(0, -1, 1000));
        due(x.right(0, 1, 0), 5);
        due(x.right(0, 0, 0), 0);
        needsMatrix((y, m) -> y.right(m, 0, 1));
    }

    private static void exchange() {
        SparseHall great = ring();
        due(great.exchange(0, true, 15, 0), 6);
        due(great.exchange(0, false, 0, 15), 6);
        SparseHall x = of(row(1, 0, 3), row(0, 0, 5));
        rights(x, 8, 9);
        due(x.exchange(0, true, 0, 1), 3);
        due(x.entry(0, 0, 2), 5);
        due(x.entry(0, 1, 0), 1);
        due(x.right(0, 0, 0), 9);
        due(x.right(0, 1, 0), 8);
        due(x.exchange(0, false, 2, 0), 3);
        due(x.entry(0, 0, 0), 5);
        due(x.entry(0, 1, 2), 1);
        due(x.exchange(0, true, 1, 1), 2);
        due(x.exchange(0, false, 0, 0), 2);
        due(x.exchange(0, false, 1, 1), 0);
        throwing(INDEX, () -> x.exchange(0, true, 2, 0));
        throwing(INDEX, () -> x.exchange(0, true, 0, 2));
        throwing(INDEX, () -> x.exchange(0, false, 3, 0));
        throwing(INDEX, () -> x.exchange(0, false, 0, -1));
        due(x.exchange(0, false, 2, 1), 1);
        SparseHall y = of(row(1, 1, 1), row(1, 1, 0), row(1, 0, 1));
        y.order(0, 'd');
        String before = told(y, 3);
        y.exchange(0, true, 0, 2);
        y.exchange(0, false, 0, 1);
        due(told(y, 3), before);
        needsMatrix((z, m) -> z.exchange(m, true, 0, 0));
    }

    private static void entries() {
        due(ring().entries(0), 48);
        SparseHall x = of(row(0, 2, 0), row(-4, 0, 999));
        due(x.entries(0), 3);
        x.set(0, 0, 1, 0);
        due(x.entries(0), 2);
        x.right(0, 0, 5);
        due(x.entries(0), 2);
        due(of(row(0)).entries(0), 0);
        needsMatrix((y, m) -> y.entries(m));
    }

    private static void transpose() {
        SparseHall great = new SparseHall();
        great.matrix(16, 15);
        great.set(0, 15, 14, 5);
        great.transpose(0);
        due(great.entry(1, 14, 15), 5);
        SparseHall x = of(row(1, 2, 3), row(4, 5, 6));
        rights(x, 7, 8);
        due(x.transpose(0), 1);
        due(x.entry(1, 2, 0), 3);
        due(x.entry(1, 0, 1), 4);
        due(x.right(1, 2, 1), 0);
        due(x.right(1, 0, 1), 0);
        throwing(INDEX, () -> x.entry(1, 0, 2));
        x.set(1, 2, 0, 9);
        due(x.entry(0, 0, 2), 3);
        due(x.transpose(1), 2);
        due(x.entry(2, 0, 2), 9);
        x.transpose(0);
        x.transpose(0);
        due(x.transpose(0), 5);
        throwing(STATE, () -> x.transpose(0));
        throwing(INDEX, () -> x.transpose(6));
        SparseHall y = joined(3, 0, 1, 0, 2);
        y.order(0, 'd');
        y.transpose(0);
        due(y.ordered(1, 0), 0);
        needsMatrix((z, m) -> z.transpose(m));
    }

    private static void multiply() {
        SparseHall great = ring();
        due(great.multiply(0, 0), 1);
        due(great.entry(1, 15, 15), 3);
        due(great.entry(1, 15, 1), 1);
        due(great.entry(1, 15, 2), 0);
        SparseHall x = of(row(1, 2), row(0, 3), row(4, 0));
        put(x, row(5, 0, 1), row(0, 6, -1));
        x.right(0, 0, 5);
        due(x.multiply(0, 1), 2);
        due(x.entry(2, 0, 0), 5);
        due(x.entry(2, 0, 1), 12);
        due(x.entry(2, 0, 2), -1);
        due(x.entry(2, 2, 2), 4);
        due(x.entries(2), 7);
        due(x.right(2, 0, 0), 0);
        throwing(UNSUPPORTED, () -> x.multiply(0, 0));
        due(x.multiply(1, 0), 3);
        due(x.multiply(3, 3), 4);
        due(x.multiply(3, 3), 5);
        throwing(STATE, () -> x.multiply(3, 3));
        throwing(UNSUPPORTED, () -> x.multiply(0, 0));
        throwing(INDEX, () -> x.multiply(0, 6));
        throwing(INDEX, () -> x.multiply(-1, 0));
        SparseHall y = of(row(333, 0), row(0, -333));
        put(y, row(3, 0), row(0, 3));
        due(y.multiply(0, 1), 2);
        due(y.entry(2, 1, 1), -999);
        y.set(1, 0, 0, 4);
        throwing(UNSUPPORTED, () -> y.multiply(0, 1));
        y.set(1, 0, 0, -4);
        throwing(UNSUPPORTED, () -> y.multiply(0, 1));
        y.set(0, 0, 0, 250);
        throwing(UNSUPPORTED, () -> y.multiply(0, 1));
        due(y.matrix(1, 1), 3);
        needsMatrix((z, m) -> z.multiply(m, 0));
        needsMatrix((z, m) -> z.multiply(0, m));
    }

    private static void foretold() {
        due(ring().foretold(0, 0), 80);
        SparseHall x = of(row(1, 1), row(0, 0), row(0, 2));
        put(x, row(1, 0, 1), row(-1, 3, 0));
        due(x.foretold(0, 1), 5);
        throwing(UNSUPPORTED, () -> x.foretold(0, 0));
        due(x.foretold(1, 0), 4);
        SparseHall y = of(row(999, 999), row(999, 999));
        due(y.foretold(0, 0), 4);
        for (int i = 0; i < 5; i++) {
            y.matrix(2, 2);
        }
        due(y.foretold(0, 5), 0);
        needsMatrix((z, m) -> z.foretold(m, 0));
        needsMatrix((z, m) -> z.foretold(0, m));
    }

    private static void isSymmetric() {
        due(ring().isSymmetric(0), true);
        due(of(row(1, 2, 0), row(2, 0, -3), row(0, -3, 5)).isSymmetric(0), true);
        due(of(row(1, 2, 0), row(2, 0, -3), row(0, 3, 5)).isSymmetric(0), false);
        due(of(row(0, 1), row(0, 0)).isSymmetric(0), false);
        due(of(row(0, 0, 0), row(0, 0, 0)).isSymmetric(0), false);
        due(of(row(7)).isSymmetric(0), true);
        due(joined(16, 0, 15).isSymmetric(0), true);
        needsMatrix((y, m) -> y.isSymmetric(m));
    }

    // ---- matchings

    private static void matched() {
        // each row needs the column of the one before, so that the last one turns all of them
        SparseHall turns = new SparseHall();
        turns.matrix(16, 16);
        for (int i = 0; i < 15; i++) {
            turns.set(0, i, i, 1);
            turns.set(0, i, i + 1, 1);
        }
        turns.set(0, 15, 0, 1);
        due(turns.matched(0), 16);
        turns.exchange(0, true, 0, 15);
        turns.exchange(0, true, 3, 9);
        due(turns.matched(0), 16);
        due(ring().matched(0), 16);
        due(of(row(1, 1, 0), row(1, 0, 0), row(0, 1, 0)).matched(0), 2);
        due(of(row(1, 1, 1), row(1, 0, 0), row(0, 1, 0)).matched(0), 3);
        due(of(row(1, 1, 1, 1)).matched(0), 1);
        due(of(row(0, 0), row(0, 0)).matched(0), 0);
        due(of(row(1, 1), row(-1, 0), row(0, -1)).matched(0), 2);
        SparseHall chain = new SparseHall();
        chain.matrix(16, 16);
        for (int i = 0; i < 16; i++) {
            chain.set(0, i, i, 1);
            chain.set(0, i, (i + 1) % 16, 1);
        }
        chain.set(0, 0, 1, 0);
        chain.set(0, 15, 15, 0);
        due(chain.matched(0), 15);
        chain.set(0, 0, 1, 1);
        due(chain.matched(0), 16);
        needsMatrix((y, m) -> y.matched(m));
    }

    private static void least() {
        SparseHall great = diagonal(9, 8, 7, 6, 5, 4, 3, 2, 9, 9, 9, 9, 9, 9, 9, 2);
        due(great.least(0), 2);
        great.set(0, 15, 7, -3);
        due(great.least(0), 2);
        great.set(0, 7, 15, 4);
        due(great.least(0), 3);
        due(of(row(1, 0), row(0, 999)).least(0), 1);
        due(of(row(998)).least(0), 998);
        due(of(row(5, 9), row(8, -7)).least(0), 8);
        due(of(row(5, 0), row(8, -7)).least(0), 5);
        due(of(row(-999, 0), row(0, 999)).least(0), 999);
        due(of(row(0, 0, -3)).least(0), 3);
        due(of(row(1, 999), row(0, 500)).least(0), 1);
        due(of(row(9, 8), row(7, 0), row(6, 0)).least(0), 7);
        throwing(NO_ELEMENT, () -> of(row(0, 0)).least(0));
        needsMatrix((y, m) -> y.least(m));
    }

    private static void blocks() {
        due(ring().blocks(0), 1);
        SparseHall less = of(row(1, 1, 0), row(1, 1, 0), row(0, 0, 1));
        due(less.blocks(0), 2);
        less.set(0, 1, 0, 0);
        due(less.blocks(0), 3);
        due(eye(16).blocks(0), 16);
        due(of(row(1, 1, 0), row(0, 1, 1), row(1, 0, 1)).blocks(0), 1);
        due(of(row(1, 1, 0), row(0, 1, 1), row(0, 0, 1)).blocks(0), 3);
        due(of(row(0, 1, 0), row(0, 0, 1), row(1, 0, 0)).blocks(0), 3);
        due(of(row(0, 2, 1), row(1, 0, 3), row(0, 1, 1)).blocks(0), 2);
        throwing(UNSUPPORTED, () -> of(row(1, 1), row(0, 0)).blocks(0));
        needsSquare(x -> x.blocks(0));
        needsMatrix((y, m) -> y.blocks(m));
    }

    private static void blockOf() {
        due(ring().blockOf(0, 15), 16);
        SparseHall x = of(row(0, 2, 1), row(1, 0, 3), row(0, 1, 1));
        due(x.blockOf(0, 0), 2);
        due(x.blockOf(0, 1), 1);
        due(x.blockOf(0, 2), 2);
        SparseHall ring = eye(5);
        ring.set(0, 4, 1, 1);
        ring.set(0, 1, 4, -1);
        ring.set(0, 0, 1, 1);
        due(ring.blockOf(0, 4), 2);
        due(ring.blockOf(0, 0), 1);
        throwing(UNSUPPORTED, () -> of(row(1, 1), row(0, 0)).blockOf(0, 1));
        throwing(INDEX, () -> of(row(1, 1), row(0, 0)).blockOf(0, 2));
        needsIndex((y, r) -> y.blockOf(0, r));
        needsMatrix((y, m) -> y.blockOf(m, 0));
    }

    // ---- orders and trees

    private static void order() {
        SparseHall again = joined(4, 0, 1, 0, 2, 0, 3);
        again.order(0, 'w');
        due(again.order(0, 'n'), 0);
        due(told(again, 4), "0 1 2 3");
        // when 0 is taken, 1 and 2 are joined by it, so that 3 is joined with fewer than 1
        SparseHall joining = joined(6, 0, 1, 0, 2, 1, 3, 1, 4, 2, 4, 2, 5, 3, 4, 3, 5);
        joining.order(0, 'd');
        due(told(joining, 6), "0 5 1 2 3 4");
        // the level that reaches half of the set is the last one: 4, 3, and the rest
        SparseHall last = joined(5, 4, 3, 3, 0, 3, 1, 3, 2, 0, 1, 1, 2, 0, 2);
        last.order(0, 's');
        due(told(last, 5), "0 1 2 3 4");
        SparseHall great = ring();
        due(great.order(0, 'd'), 0);
        due(great.ordered(0, 15), 15);
        due(great.order(0, 'w'), 8);
        due(great.ordered(0, 15), 0);
        // 4 and 12 part the ring; of the way from 3 to 13, 0 is the middle, and of that from 5 to 11, 8
        due(great.order(0, 's'), 1);
        due(told(great, 16), "1 2 3 13 14 15 0 5 6 7 9 10 11 8 4 12");
        SparseHall star = joined(5, 0, 1, 0, 2, 0, 3, 0, 4);
        due(told(star, 5), "0 1 2 3 4");
        due(star.order(0, 'd'), 1);
        due(told(star, 5), "1 2 3 0 4");
        due(star.order(0, 'w'), 4);
        due(told(star, 5), "4 3 2 0 1");
        due(star.order(0, 's'), 0);
        due(star.order(0, 'n'), 0);
        // behind 0, its two are joined: 1 and 2 become as many as 3 and 4
        SparseHall filled = joined(5, 0, 1, 0, 2, 1, 3, 2, 4, 3, 4);
        filled.order(0, 'd');
        due(told(filled, 5), "0 1 2 3 4");
        SparseHall late = joined(6, 0, 1, 0, 2, 1, 2, 1, 3, 2, 3, 3, 4, 4, 5);
        late.order(0, 'd');
        due(told(late, 6), "5 4 0 1 2 3");
        // numbers of joined ones count those taken, too, and then the index
        SparseHall wide = joined(7, 3, 0, 3, 5, 3, 6, 0, 1, 0, 2, 5, 4);
        wide.order(0, 'w');
        due(told(wide, 7), "4 5 6 3 2 0 1");
        SparseHall parts = joined(6, 0, 1, 1, 2, 0, 2, 3, 4);
        parts.order(0, 'w');
        due(told(parts, 6), "2 1 0 4 3 5");
        parts.order(0, 's');
        due(told(parts, 6), "0 1 2 3 4 5");
        // a way of seven: 0 1 2 3 4 5 6 parts at the level that reaches four
        SparseHall way = joined(7, 0, 1, 1, 2, 2, 3, 3, 4, 4, 5, 5, 6);
        way.order(0, 's');
        due(told(way, 7), "0 1 2 4 5 6 3");
        // several parts, each ordered for itself: 4 and 6 are one, 5 is another one
        SparseHall several = joined(7, 4, 6);
        several.order(0, 's');
        due(told(several, 7), "0 1 2 3 4 6 5");
        // five joined with each other have no higher level
        SparseHall full = joined(5, 4, 0, 4, 1, 4, 2, 4, 3, 0, 1, 0, 2, 0, 3, 1, 2, 1, 3, 2, 3);
        due(full.order(0, 's'), 0);
        due(told(full, 5), "0 1 2 3 4");
        // one side is enough to be joined, and the diagonal is not
        SparseHall oneSided = of(row(5, 0, 1), row(0, 0, 1), row(0, 0, 0));
        oneSided.order(0, 'd');
        due(told(oneSided, 3), "0 1 2");
        oneSided.order(0, 'w');
        due(told(oneSided, 3), "1 2 0");
        throwing(ARGUMENT, () -> oneSided.order(0, 'x'));
        throwing(ARGUMENT, () -> oneSided.order(0, (char) 0));
        due(told(oneSided, 3), "1 2 0");
        oneSided.set(0, 0, 1, 1);
        due(told(oneSided, 3), "1 2 0");
        throwing(ARGUMENT, () -> of(row(1, 2)).order(0, 'x'));
        needsSquare(x -> x.order(0, 'n'));
        needsMatrix((y, m) -> y.order(m, 'n'));
        needsMatrix((y, m) -> y.order(m, 'x'));
    }

    private static void ordered() {
        SparseHall x = joined(3, 0, 1, 0, 2);
        due(told(x, 3), "0 1 2");
        x.order(0, 'w');
        due(told(x, 3), "2 0 1");
        needsIndex((y, p) -> y.ordered(0, p));
        needsMatrix((y, m) -> y.ordered(m, 0));
    }

    private static void width() {
        due(ring().width(0), 15);
        SparseHall x = joined(4, 0, 3, 1, 2);
        due(x.width(0), 3);
        x.order(0, 'w');
        due(x.width(0), 1);
        due(eye(4).width(0), 0);
        due(of(row(0, 0, 1), row(0, 0, 0), row(0, 0, 0)).width(0), 2);
        due(joined(16, 0, 15).width(0), 15);
        needsSquare(y -> y.width(0));
        needsMatrix((y, m) -> y.width(m));
    }

    private static void parent() {
        // in the order 2 1 0 the first one of those left is 1, and not the lowest index
        SparseHall back = joined(3, 0, 1, 0, 2, 1, 2);
        back.order(0, 'w');
        due(told(back, 3), "2 1 0");
        due(back.parent(0, 2), 1);
        due(back.parent(0, 1), 0);
        due(ring().parent(0, 0), 1);
        due(ring().parent(0, 15), -1);
        SparseHall x = joined(4, 0, 2, 0, 3, 1, 3);
        due(x.parent(0, 0), 2);
        due(x.parent(0, 1), 3);
        due(x.parent(0, 2), 3);
        due(x.parent(0, 3), -1);
        x.order(0, 'w');
        due(told(x, 4), "2 0 3 1");
        due(x.parent(0, 2), 0);
        due(x.parent(0, 0), 3);
        due(x.parent(0, 1), -1);
        due(eye(2).parent(0, 0), -1);
        needsIndex((y, i) -> y.parent(0, i));
        needsMatrix((y, m) -> y.parent(m, 0));
    }

    private static void countOf() {
        due(ring().countOf(0, 14), 2);
        due(ring().countOf(0, 0), 3);
        SparseHall x = joined(4, 0, 1, 0, 2, 0, 3);
        due(x.countOf(0, 0), 4);
        due(x.countOf(0, 1), 3);
        due(x.countOf(0, 3), 1);
        x.order(0, 'd');
        due(x.countOf(0, 0), 2);
        due(x.countOf(0, 1), 2);
        due(joined(16).countOf(0, 15), 1);
        needsIndex((y, i) -> y.countOf(0, i));
        needsMatrix((y, m) -> y.countOf(m, 0));
    }

    private static void path() {
        due(ring().path(0, 0), 16);
        SparseHall x = joined(4, 0, 2, 0, 3, 1, 3);
        due(x.path(0, 0), 3);
        due(x.path(0, 1), 2);
        due(x.path(0, 3), 1);
        int[] way = new int[30];
        for (int i = 0; i < 15; i++) {
            way[2 * i] = i;
            way[2 * i + 1] = i + 1;
        }
        due(joined(16, way).path(0, 0), 16);
        needsIndex((y, i) -> y.path(0, i));
        needsMatrix((y, m) -> y.path(m, 0));
    }

    private static void fill() {
        due(ring().fill(0), 13);
        SparseHall x = joined(4, 0, 1, 0, 2, 0, 3);
        due(x.fill(0), 3);
        x.order(0, 'd');
        due(x.fill(0), 0);
        due(joined(4, 0, 1, 0, 2, 1, 3, 2, 3).fill(0), 1);
        due(of(row(1, 1, 0), row(0, 1, 0), row(1, 0, 1)).fill(0), 1);
        due(of(row(1)).fill(0), 0);
        needsSquare(y -> y.fill(0));
        needsMatrix((y, m) -> y.fill(m));
    }

    private static void supernodes() {
        due(ring().supernodes(0), 14);
        SparseHall anew = joined(3, 0, 2, 1, 2);
        due(anew.supernodes(0), 3);
        anew.order(0, 'w');
        due(told(anew, 3), "1 2 0");
        due(anew.supernodes(0), 2);
        due(eye(3).supernodes(0), 3);
        due(joined(3, 0, 1, 0, 2, 1, 2).supernodes(0), 1);
        due(joined(3, 0, 2, 1, 2).supernodes(0), 3);
        due(joined(3, 0, 1, 1, 2).supernodes(0), 2);
        due(joined(4, 0, 1, 0, 2, 0, 3).supernodes(0), 1);
        SparseHall apart = joined(3, 0, 2, 1, 2);
        apart.order(0, 'w');
        due(apart.supernodes(0), 2);
        due(of(row(0)).supernodes(0), 1);
        needsSquare(y -> y.supernodes(0));
        needsMatrix((y, m) -> y.supernodes(m));
    }

    private static void memory() {
        due(ring().memory(0), 13);
        // 4 beside what the one with 9 hands on is less than 9 beside what the one with 4 hands on
        due(joined(4, 0, 3, 1, 2, 1, 3, 2, 3).memory(0), 9);
        due(joined(4, 2, 3, 0, 1, 0, 3, 1, 3).memory(0), 9);
        // 7 has 16 and hands on 9; 8 has 11 and hands on 1, and goes first
        due(joined(12, 0, 8, 1, 8, 2, 8, 3, 8, 4, 8, 5, 8, 6, 8, 8, 9, 7, 9, 7, 10, 7, 11).memory(0), 19);
        SparseHall anew = joined(4, 0, 1, 0, 2, 0, 3);
        due(anew.memory(0), 18);
        anew.order(0, 'd');
        due(anew.memory(0), 6);
        due(eye(3).memory(0), 1);
        due(joined(3, 0, 1, 0, 2, 1, 2).memory(0), 9);
        // 0 and 1 hand on 1 each, and the front of 2 is 1
        due(joined(3, 0, 2, 1, 2).memory(0), 5);
        // the child that needs 9 and hands on 1 goes first: 9 at most, and not 9 beside 1
        due(joined(5, 0, 1, 0, 2, 1, 2, 2, 4, 3, 4).memory(0), 9);
        due(joined(5, 1, 2, 1, 3, 2, 3, 3, 4, 0, 4).memory(0), 9);
        due(joined(7, 0, 6, 1, 6, 2, 6, 3, 6, 4, 6, 5, 6).memory(0), 9);
        due(of(row(0)).memory(0), 1);
        needsSquare(y -> y.memory(0));
        needsMatrix((y, m) -> y.memory(m));
    }

    private static void work() {
        due(ring().work(0, 4), 131);
        // 0 and 3 are as urgent: 0 goes first, though 3 would have been the better one
        due(joined(7, 0, 1, 0, 5, 1, 5, 2, 4, 2, 6, 3, 4, 4, 6, 4, 5).work(0, 2), 27);
        // one that runs holds its processor
        due(joined(10, 0, 1).work(0, 2), 7);
        SparseHall back = joined(10, 0, 9);
        back.order(0, 'w');
        due(back.ordered(0, 0), 9);
        due(back.work(0, 2), 7);
        due(eye(4).work(0, 1), 4);
        due(eye(4).work(0, 3), 2);
        due(eye(4).work(0, 4), 1);
        due(joined(3, 0, 1, 0, 2, 1, 2).work(0, 4), 14);
        due(joined(3, 0, 2, 1, 2).work(0, 1), 9);
        due(joined(3, 0, 2, 1, 2).work(0, 2), 5);
        // the long way first: 3 4 5 sums up to more than 0, 1 and 2 alone
        due(joined(6, 3, 4, 4, 5).work(0, 2), 9);
        due(joined(6, 3, 4, 4, 5).work(0, 1), 12);
        for (int wrongNumber : new int[] {0, 5, -1, Integer.MAX_VALUE}) {
            throwing(ARGUMENT, () -> eye(2).work(0, wrongNumber));
        }
        throwing(ARGUMENT, () -> of(row(1, 2)).work(0, 0));
        needsSquare(y -> y.work(0, 1));
        needsMatrix((y, m) -> y.work(m, 0));
    }

    // ---- exact numbers

    private static void determinant() {
        due(band().determinant(0), 11L);
        due(of(row(1, 2), row(3, 4)).determinant(0), -2L);
        due(of(row(0, 2), row(3, 0)).determinant(0), -6L);
        due(of(row(1, 2), row(2, 4)).determinant(0), 0L);
        due(of(row(-999)).determinant(0), -999L);
        due(of(row(2, 0, 1), row(1, 3, 0), row(0, 1, 4)).determinant(0), 25L);
        due(diagonal(999, 999, 999, 999, 999, 999).determinant(0), 999L * 999 * 999 * 999 * 999 * 999);
        throwing(ARITHMETIC, () -> diagonal(999, 999, 999, 999, 999, 999, 999).determinant(0));
        // 2^62, 2^63 and -2^63
        due(diagonal(512, 512, 512, 512, 512, 512, 256).determinant(0), 1L << 62);
        throwing(ARITHMETIC, () -> diagonal(512, 512, 512, 512, 512, 512, 512).determinant(0));
        due(diagonal(512, 512, 512, 512, 512, 512, -512).determinant(0), Long.MIN_VALUE);
        // 2^45 times 2^18 + 1 is beyond, and times 2^18 - 1 it is not
        SparseHall edge = diagonal(512, 512, 512, 512, 512, 1, 1);
        edge.set(0, 5, 5, 512);
        edge.set(0, 6, 6, 512);
        edge.set(0, 5, 6, 1);
        edge.set(0, 6, 5, -1);
        throwing(ARITHMETIC, () -> edge.determinant(0));
        edge.set(0, 6, 5, 1);
        due(edge.determinant(0), Long.MAX_VALUE - ((1L << 45) - 1));
        throwing(ARITHMETIC, () -> diagonal(512, 512, 512, 512, 512, 512, 512, 2).determinant(0));
        due(diagonal(100, 100, 100, 100, 100, 100, 100, 100, 100, -9).determinant(0), -9000000000000000000L);
        throwing(ARITHMETIC, () -> diagonal(100, 100, 100, 100, 100, 100, 100, 100, 950).determinant(0));
        throwing(ARITHMETIC, () -> diagonal(100, 100, 100, 100, 100, 100, 100, 100, -950).determinant(0));
        throwing(ARITHMETIC, () -> diagonal(100, 100, 100, 100, 100, 100, 100, 100, 100, 10).determinant(0));
        throwing(ARITHMETIC, () -> diagonal(999, 999, 999, 999, 999, 999, 999, 999, 999, -999).determinant(0));
        due(ofGreatPrimes(false).determinant(0), 2147483647L * 2147483629L);
        throwing(UNSUPPORTED, () -> eye(11).determinant(0));
        due(eye(10).determinant(0), 1L);
        needsSquare(y -> y.determinant(0));
        needsMatrix((y, m) -> y.determinant(m));
    }

    private static void digits() {
        due(band().digits(0), 2);
        due(of(row(0)).digits(0), 1);
        due(of(row(-9)).digits(0), 1);
        due(of(row(10)).digits(0), 2);
        due(diagonal(100, 100, 100, 10).digits(0), 8);
        due(diagonal(100, 100, 100, 100, 10).digits(0), 10);
        due(diagonal(999, 999, 999).digits(0), 9);
        due(diagonal(999, 999, 999, 999, 999, 999, 999, 999, 999, -999).digits(0), 30);
        due(of(row(1, 2), row(2, 4)).digits(0), 1);
        // the greatest determinants have ones and minus ones like these in all places
        SparseHall great = new SparseHall();
        great.matrix(8, 8);
        for (int i = 0; i < 8; i++) {
            for (int j = 0; j < 8; j++) {
                great.set(0, i, j, Integer.bitCount(i & j) % 2 == 0 ? 999 : -999);
            }
        }
        due(great.digits(0), new java.math.BigInteger("999").pow(8).shiftLeft(12).toString().length());
        throwing(UNSUPPORTED, () -> eye(11).digits(0));
        needsSquare(y -> y.digits(0));
        needsMatrix((y, m) -> y.digits(m));
    }

    private static void modulo() {
        SparseHall x = of(row(1, 2), row(3, 4));
        due(x.modulo(0, 2), 0);
        due(x.modulo(0, 3), 1);
        due(x.modulo(0, 997), 995);
        due(of(row(0, 2), row(3, 0)).modulo(0, 7), 1);
        due(of(row(996)).modulo(0, 997), 996);
        due(eye(16).modulo(0, 997), 1);
        SparseHall turned = eye(16);
        turned.exchange(0, true, 0, 15);
        due(turned.modulo(0, 997), 996);
        due(turned.modulo(0, 2), 1);
        due(of(row(0)).modulo(0, 5), 0);
        for (int wrongPrime : new int[] {1, 0, -7, 4, 9, 961, 998, 1009, Integer.MAX_VALUE, Integer.MIN_VALUE}) {
            throwing(ARGUMENT, () -> x.modulo(0, wrongPrime));
        }
        throwing(ARGUMENT, () -> of(row(1, 2)).modulo(0, 4));
        needsSquare(y -> y.modulo(0, 7));
        needsMatrix((y, m) -> y.modulo(m, 4));
    }

    private static void rank() {
        due(band().rank(0), 10);
        SparseHall flat = new SparseHall();
        flat.matrix(10, 10);
        flat.set(0, 9, 9, 1);
        due(flat.rank(0), 1);
        due(of(row(1, 2, 3), row(2, 4, 6)).rank(0), 1);
        due(of(row(1, 2, 3), row(2, 4, 7)).rank(0), 2);
        due(of(row(1, 2), row(2, 4), row(0, 1)).rank(0), 2);
        due(of(row(0, 0), row(0, 0)).rank(0), 0);
        due(of(row(0, 0, 1), row(0, 0, 2), row(0, 5, 0)).rank(0), 2);
        due(eye(10).rank(0), 10);
        due(ofGreatPrimes(false).rank(0), 8);
        due(of(row(1, 2, 3), row(4, 5, 6), row(7, 8, 9)).rank(0), 2);
        throwing(UNSUPPORTED, () -> eye(11).rank(0));
        throwing(UNSUPPORTED, () -> {
            SparseHall y = new SparseHall();
            y.matrix(1, 11);
            return y.rank(0);
        });
        throwing(UNSUPPORTED, () -> {
            SparseHall y = new SparseHall();
            y.matrix(11, 1);
            return y.rank(0);
        });
        needsMatrix((y, m) -> y.rank(m));
    }

    private static void vector() {
        SparseHall last = new SparseHall();
        last.matrix(10, 10);
        for (int i = 0; i < 9; i++) {
            last.set(0, i + 1, i, 1);
            last.set(0, i + 1, 9, i - 4);
        }
        due(last.vector(0, 9), 1L);
        due(last.vector(0, 8), -4L);
        due(last.vector(0, 0), 4L);
        due(last.vector(0, 4), 0L);
        SparseHall x = of(row(1, 2, 3), row(4, 5, 6), row(7, 8, 9));
        due(x.vector(0, 0), 1L);
        due(x.vector(0, 1), -2L);
        due(x.vector(0, 2), 1L);
        SparseHall zero = of(row(0, 1, 2), row(0, 3, 4));
        due(zero.vector(0, 0), 1L);
        due(zero.vector(0, 1), 0L);
        due(zero.vector(0, 2), 0L);
        SparseHall nothing = of(row(3, 0, 1), row(1, 0, 1));
        due(nothing.vector(0, 0), 0L);
        due(nothing.vector(0, 1), 1L);
        due(nothing.vector(0, 2), 0L);
        SparseHall parts = of(row(6, 0, 3, 1), row(0, 4, 6, 1));
        due(parts.vector(0, 0), -1L);
        due(parts.vector(0, 1), -3L);
        due(parts.vector(0, 2), 2L);
        due(parts.vector(0, 3), 0L);
        SparseHall minus = of(row(0, 2, 1), row(2, 0, 1));
        due(minus.vector(0, 0), -1L);
        due(minus.vector(0, 2), 2L);
        due(ofGreatPrimes(true).vector(0, 4), -1L);
        due(ofGreatPrimes(true).vector(0, 3), 0L);
        due(ofGreatPrimes(true).vector(0, 8), 1L);
        throwing(NO_ELEMENT, () -> of(row(1, 2), row(3, 4)).vector(0, 0));
        throwing(NO_ELEMENT, () -> of(row(1), row(3)).vector(0, 0));
        SparseHall great = new SparseHall();
        great.matrix(9, 10);
        for (int i = 0; i < 9; i++) {
            great.set(0, i, i, 997 - i);
            great.set(0, i, i + 1, 499 + i);
        }
        due(great.vector(0, 1) == 0, false);
        SparseHall beyond = new SparseHall();
        beyond.matrix(8, 9);
        for (int i = 0; i < 8; i++) {
            beyond.set(0, i, i, 2);
            beyond.set(0, i, i + 1, -999);
        }
        throwing(ARITHMETIC, () -> beyond.vector(0, 0));
        due(beyond.vector(0, 8), 256L);
        due(beyond.vector(0, 7), 128L * 999);
        throwing(UNSUPPORTED, () -> {
            SparseHall y = new SparseHall();
            y.matrix(2, 11);
            return y.vector(0, 0);
        });
        throwing(INDEX, () -> x.vector(0, 3));
        throwing(INDEX, () -> x.vector(0, -1));
        needsMatrix((y, m) -> y.vector(m, 0));
    }

    private static void answer() {
        SparseHall full = band();
        rights(full, 0, 0, 0, 0, 0, 0, 0, 0, 0, 11);
        for (char way : new char[] {'s', 'l', 'n'}) {
            due(full.answer(0, way, 9, true), 10L);
            due(full.answer(0, way, 0, true), 1L);
            due(full.answer(0, way, 4, false), 1L);
        }
        SparseHall x = of(row(2, 1), row(1, 3));
        rights(x, 3, -1);
        due(x.answer(0, 's', 0, true), 2L);
        due(x.answer(0, 's', 0, false), 1L);
        due(x.answer(0, 's', 1, true), -1L);
        x.right(0, 0, 1);
        due(x.answer(0, 's', 0, true), 4L);
        due(x.answer(0, 's', 0, false), 5L);
        due(x.answer(0, 'l', 1, true), -3L);
        due(x.answer(0, 'n', 1, false), 5L);
        // a determinant below 0 leaves the denominator above 0
        SparseHall turned = of(row(0, 3), row(2, 0));
        rights(turned, 1, 1);
        due(turned.answer(0, 's', 0, true), 1L);
        due(turned.answer(0, 's', 0, false), 2L);
        due(turned.answer(0, 's', 1, false), 3L);
        rights(turned, 0, 0);
        due(turned.answer(0, 's', 1, true), 0L);
        due(turned.answer(0, 's', 1, false), 1L);
        SparseHall high = of(row(1, 0), row(1, 1), row(1, 2));
        rights(high, 6, 0, 0);
        due(high.answer(0, 'l', 0, true), 5L);
        due(high.answer(0, 'l', 1, true), -3L);
        due(high.answer(0, 'l', 1, false), 1L);
        throwing(UNSUPPORTED, () -> high.answer(0, 'n', 0, true));
        throwing(UNSUPPORTED, () -> high.answer(0, 's', 0, true));
        SparseHall flat = of(row(1, 2, 2));
        rights(flat, 3);
        due(flat.answer(0, 'n', 0, true), 1L);
        due(flat.answer(0, 'n', 0, false), 3L);
        due(flat.answer(0, 'n', 2, true), 2L);
        throwing(UNSUPPORTED, () -> flat.answer(0, 'l', 0, true));
        throwing(UNSUPPORTED, () -> flat.answer(0, 's', 0, true));
        SparseHall primes = ofGreatPrimes(false);
        primes.right(0, 0, 1);
        for (char way : new char[] {'s', 'l', 'n'}) {
            due(primes.answer(0, way, 3, true), 1L);
            due(primes.answer(0, way, 3, false), 2147483647L);
            due(primes.answer(0, way, 2, true), 999L);
            due(primes.answer(0, way, 5, false), 1L);
        }
        throwing(UNSUPPORTED, () -> of(row(1, 2), row(2, 4)).answer(0, 's', 0, true));
        throwing(UNSUPPORTED, () -> of(row(1, 2), row(2, 4)).answer(0, 'l', 0, true));
        throwing(UNSUPPORTED, () -> of(row(1, 2), row(2, 4)).answer(0, 'n', 0, true));
        throwing(ARGUMENT, () -> x.answer(0, 'x', 0, true));
        throwing(INDEX, () -> x.answer(0, 'x', 2, true));
        throwing(INDEX, () -> x.answer(0, 's', -1, true));
        throwing(UNSUPPORTED, () -> eye(11).answer(0, 's', 0, true));
        throwing(UNSUPPORTED, () -> eye(11).answer(0, 'l', 0, true));
        throwing(UNSUPPORTED, () -> eye(11).answer(0, 'n', 10, true));
        throwing(ARGUMENT, () -> eye(11).answer(0, 'S', 0, true));
        // each row asks for 999 times the next number: 999^7 and more for the first ones
        SparseHall great = eye(10);
        for (int i = 0; i < 9; i++) {
            great.set(0, i, i + 1, -999);
        }
        great.right(0, 9, 1);
        due(great.answer(0, 's', 3, true), 999L * 999 * 999 * 999 * 999 * 999);
        throwing(ARITHMETIC, () -> great.answer(0, 's', 2, true));
        due(great.answer(0, 's', 2, false), 1L);
        throwing(ARITHMETIC, () -> great.answer(0, 'l', 0, true));
        throwing(ARITHMETIC, () -> great.answer(0, 'n', 0, true));
        due(great.answer(0, 'l', 8, true), 999L);
        due(great.answer(0, 'n', 8, true), 999L);
        needsMatrix((y, m) -> y.answer(m, 's', 0, true));
    }

    private static void answerModulo() {
        SparseHall full = band();
        rights(full, 0, 0, 0, 0, 0, 0, 0, 0, 0, 11);
        due(full.answerModulo(0, 9, 7), 3);
        SparseHall x = of(row(2, 1), row(1, 3));
        rights(x, 1, -1);
        due(x.answerModulo(0, 0, 7), 5);
        due(x.answerModulo(0, 1, 7), 5);
        due(x.answerModulo(0, 0, 2), 0);
        due(x.answerModulo(0, 1, 997), 797);
        throwing(UNSUPPORTED, () -> x.answerModulo(0, 0, 5));
        SparseHall great = eye(16);
        great.exchange(0, true, 0, 15);
        great.right(0, 0, -1);
        due(great.answerModulo(0, 15, 3), 2);
        due(great.answerModulo(0, 0, 3), 0);
        throwing(UNSUPPORTED, () -> of(row(1, 2), row(2, 4)).answerModulo(0, 0, 7));
        throwing(ARGUMENT, () -> x.answerModulo(0, 0, 1));
        throwing(ARGUMENT, () -> x.answerModulo(0, 0, 6));
        throwing(ARGUMENT, () -> x.answerModulo(0, 0, 1009));
        throwing(INDEX, () -> x.answerModulo(0, 2, 6));
        throwing(INDEX, () -> x.answerModulo(0, -1, 7));
        throwing(ARGUMENT, () -> of(row(1, 2)).answerModulo(0, 1, 4));
        needsSquare(y -> y.answerModulo(0, 1, 7));
        needsMatrix((y, m) -> y.answerModulo(m, 0, 7));
    }

    private static void inverse() {
        due(band().inverse(0, 9, 9, true), 10L);
        due(band().inverse(0, 9, 0, false), 11L);
        SparseHall x = of(row(1, 2), row(3, 4));
        rights(x, 99, 98);
        due(x.inverse(0, 0, 0, true), -2L);
        due(x.inverse(0, 0, 1, true), 1L);
        due(x.inverse(0, 1, 0, true), 3L);
        due(x.inverse(0, 1, 0, false), 2L);
        due(x.inverse(0, 1, 1, true), -1L);
        due(eye(10).inverse(0, 9, 8, true), 0L);
        due(eye(10).inverse(0, 9, 8, false), 1L);
        throwing(INDEX, () -> x.inverse(0, 2, 0, true));
        throwing(INDEX, () -> x.inverse(0, 0, 2, true));
        throwing(INDEX, () -> x.inverse(0, -1, 0, true));
        throwing(INDEX, () -> x.inverse(0, 0, -1, true));
        throwing(UNSUPPORTED, () -> of(row(1, 2), row(2, 4)).inverse(0, 0, 0, true));
        throwing(UNSUPPORTED, () -> eye(11).inverse(0, 0, 0, true));
        SparseHall great = eye(8);
        for (int i = 0; i < 7; i++) {
            great.set(0, i, i + 1, 999);
        }
        throwing(ARITHMETIC, () -> great.inverse(0, 0, 7, true));
        due(great.inverse(0, 1, 7, true), 999L * 999 * 999 * 999 * 999 * 999);
        due(great.inverse(0, 6, 7, true), -999L);
        needsSquare(y -> y.inverse(0, 1, 1, true));
        needsMatrix((y, m) -> y.inverse(m, 0, 0, true));
    }

    private static void above() {
        due(band().above(0, 0), 10);
        due(band().above(0, 2), 5);
        due(band().above(0, 4), 0);
        SparseHall x = of(row(2, 1), row(1, 2));
        due(x.above(0, 0), 2);
        due(x.above(0, 1), 1);
        due(x.above(0, 2), 1);
        due(x.above(0, 3), 0);
        due(x.above(0, -99999), 2);
        due(x.above(0, 99999), 0);
        SparseHall same = diagonal(5, 5, -5, 0, 5);
        due(same.above(0, 4), 3);
        due(same.above(0, 5), 0);
        due(same.above(0, -1), 4);
        due(same.above(0, -5), 4);
        due(same.above(0, -6), 5);
        due(of(row(0, 3), row(3, 0)).above(0, 0), 1);
        throwing(ARGUMENT, () -> x.above(0, 100000));
        throwing(ARGUMENT, () -> x.above(0, -100000));
        throwing(ARGUMENT, () -> of(row(1, 2)).above(0, 100000));
        throwing(UNSUPPORTED, () -> of(row(1, 2), row(3, 4)).above(0, 0));
        throwing(UNSUPPORTED, () -> eye(11).above(0, 0));
        needsSquare(y -> y.above(0, 0));
        needsMatrix((y, m) -> y.above(m, 100000));
    }

    private static void floor() {
        due(band().floor(0, 0), 3);
        due(band().floor(0, 9), 0);
        SparseHall x = of(row(0, 3), row(3, 1));
        due(x.floor(0, 0), 3);
        due(x.floor(0, 1), -3);
        SparseHall whole = diagonal(5, 5, -5, 0, 7);
        due(whole.floor(0, 0), 7);
        due(whole.floor(0, 1), 5);
        due(whole.floor(0, 2), 5);
        due(whole.floor(0, 3), 0);
        due(whole.floor(0, 4), -5);
        SparseHall most = new SparseHall();
        most.matrix(10, 10);
        for (int i = 0; i < 10; i++) {
            for (int j = 0; j < 10; j++) {
                most.set(0, i, j, 999);
            }
        }
        due(most.floor(0, 0), 9990);
        due(most.floor(0, 9), 0);
        for (int i = 0; i < 10; i++) {
            for (int j = 0; j < 10; j++) {
                most.set(0, i, j, -999);
            }
        }
        due(most.floor(0, 9), -9990);
        throwing(INDEX, () -> x.floor(0, 2));
        throwing(INDEX, () -> x.floor(0, -1));
        throwing(INDEX, () -> eye(11).floor(0, 11));
        throwing(UNSUPPORTED, () -> eye(11).floor(0, 10));
        throwing(UNSUPPORTED, () -> of(row(1, 2), row(3, 4)).floor(0, 0));
        needsIndex((y, i) -> y.floor(0, i));
        needsMatrix((y, m) -> y.floor(m, 0));
    }

    private static void steps() {
        SparseHall full = band();
        full.right(0, 9, 1);
        due(full.steps(0), 10);
        full.right(0, 0, 1);
        due(full.steps(0), 5);
        SparseHall x = diagonal(1, 2, 2, 4);
        due(x.steps(0), 0);
        rights(x, 0, 1, 1, 0);
        due(x.steps(0), 1);
        rights(x, 5, 1, 1, 0);
        due(x.steps(0), 2);
        rights(x, 5, 1, -1, 9);
        due(x.steps(0), 3);
        SparseHall ten = diagonal(1, 2, 3, 4, 5, 6, 7, 8, 9, 999);
        rights(ten, 1, 1, 1, 1, 1, 1, 1, 1, 1, 1);
        due(ten.steps(0), 10);
        SparseHall two = of(row(2, 1), row(1, 2));
        rights(two, 4, 4);
        due(two.steps(0), 1);
        rights(two, 1, 0);
        due(two.steps(0), 2);
        // modulo the first of the great primes, two steps would be enough
        SparseHall prime = of(row(888, 267, 98), row(267, 974, 142), row(98, 142, 940));
        rights(prime, 78, 477, -157);
        due(prime.steps(0), 3);
        throwing(UNSUPPORTED, () -> of(row(1, 1), row(1, 1)).steps(0));
        throwing(UNSUPPORTED, () -> of(row(1, 2), row(2, 1)).steps(0));
        throwing(UNSUPPORTED, () -> of(row(0)).steps(0));
        throwing(UNSUPPORTED, () -> of(row(2, 1), row(0, 2)).steps(0));
        throwing(UNSUPPORTED, () -> eye(11).steps(0));
        needsSquare(y -> y.steps(0));
        needsMatrix((y, m) -> y.steps(m));
    }

    // ---- patterns and paths

    private static void kept() {
        due(ring().kept(0, 0), 48);
        due(ring().kept(0, 20), 74);
        due(ring().kept(0, 1), 50);
        SparseHall arrow = joined(4, 0, 1, 0, 2, 0, 3);
        due(arrow.kept(0, 0), 10);
        due(arrow.kept(0, 1), 16);
        due(arrow.kept(0, 20), 16);
        // 1-3 gets level 1 over 0, 2-3 level 2 over 1, and 2-4 is 2 + 0 + 1 over 3 only if 2-3 is kept
        SparseHall way = joined(5, 0, 1, 0, 3, 1, 2);
        due(way.kept(0, 0), 11);
        due(way.kept(0, 1), 13);
        due(way.kept(0, 2), 15);
        // only rising indices: what is eliminated later does not fill what was eliminated before
        due(of(row(1, 0, 1), row(0, 1, 1), row(1, 1, 1)).kept(0, 5), 7);
        due(of(row(0, 1, 0), row(0, 0, 0), row(1, 0, 0)).kept(0, 1), 6);
        due(of(row(0)).kept(0, 0), 1);
        due(joined(16).kept(0, 3), 16);
        for (int wrongLevel : new int[] {-1, 21, Integer.MAX_VALUE, Integer.MIN_VALUE}) {
            throwing(ARGUMENT, () -> arrow.kept(0, wrongLevel));
        }
        throwing(ARGUMENT, () -> of(row(1, 2)).kept(0, 21));
        needsSquare(y -> y.kept(0, 0));
        needsMatrix((y, m) -> y.kept(m, 21));
    }

    private static void aggregate() {
        due(ring().aggregate(0, 15), 0);
        due(ring().aggregate(0, 14), 4);
        due(ring().aggregate(0, 2), 1);
        // 1 comes to the aggregate that 0 made
        due(joined(3, 0, 2, 1, 2).aggregate(0, 1), 0);
        SparseHall x = joined(7, 0, 3, 3, 1, 1, 4, 4, 2, 2, 6);
        // 0 makes one with 3; 1 touches it; 2 makes one with 4 and 6; 5 is alone; 1 comes to that of 3
        due(x.aggregate(0, 0), 0);
        due(x.aggregate(0, 3), 0);
        due(x.aggregate(0, 1), 0);
        due(x.aggregate(0, 2), 1);
        due(x.aggregate(0, 4), 1);
        due(x.aggregate(0, 5), 2);
        due(x.aggregate(0, 6), 1);
        // numbers go by lowest indices, so that coming to one can lower its number
        SparseHall late = joined(6, 0, 4, 4, 1, 1, 3, 2, 3, 2, 5);
        due(late.aggregate(0, 1), 1);
        due(late.aggregate(0, 2), 1);
        due(late.aggregate(0, 5), 1);
        due(eye(3).aggregate(0, 2), 2);
        needsIndex((y, i) -> y.aggregate(0, i));
        needsMatrix((y, m) -> y.aggregate(m, 0));
    }

    private static void partsOf() {
        due(ring().partsOf(0), 1);
        due(joined(6, 0, 5, 5, 1, 2, 3).partsOf(0), 3);
        due(eye(16).partsOf(0), 16);
        due(of(row(0, 1, 0), row(0, 0, 0), row(0, 1, 0)).partsOf(0), 1);
        due(of(row(0)).partsOf(0), 1);
        needsSquare(y -> y.partsOf(0));
        needsMatrix((y, m) -> y.partsOf(m));
    }

    private static void best() {
        due(ring().best(0, 0, 8, 'a'), 8);
        due(ring().best(0, 15, 3, '+'), 4);
        SparseHall x = of(row(0, 9, 2, 0), row(0, 0, 0, 1), row(0, 3, 0, 0), row(4, 0, 0, 0));
        due(x.best(0, 0, 1, '+'), 5);
        due(x.best(0, 0, 1, 'a'), 1);
        due(x.best(0, 0, 1, 'm'), 9);
        due(x.best(0, 0, 0, '+'), 10);
        due(x.best(0, 0, 0, 'a'), 3);
        due(x.best(0, 0, 0, 'm'), 1);
        due(x.best(0, 2, 2, 'm'), 1);
        due(x.best(0, 3, 2, '+'), 6);
        x.set(0, 0, 0, 7);
        due(x.best(0, 0, 0, '+'), 7);
        due(x.best(0, 0, 0, 'm'), 7);
        x.set(0, 3, 0, 0);
        throwing(NO_ELEMENT, () -> x.best(0, 3, 0, '+'));
        throwing(NO_ELEMENT, () -> x.best(0, 3, 3, 'a'));
        throwing(NO_ELEMENT, () -> x.best(0, 1, 0, 'm'));
        x.set(0, 3, 3, -5);
        throwing(UNSUPPORTED, () -> x.best(0, 0, 1, '+'));
        due(x.best(0, 3, 3, 'm'), -5);
        due(x.best(0, 3, 3, 'a'), 1);
        throwing(ARGUMENT, () -> x.best(0, 0, 1, 'x'));
        throwing(INDEX, () -> x.best(0, 4, 1, 'x'));
        throwing(INDEX, () -> x.best(0, 0, 4, 'x'));
        throwing(INDEX, () -> x.best(0, -1, 0, '+'));
        throwing(INDEX, () -> x.best(0, 0, -1, '+'));
        throwing(ARGUMENT, () -> of(row(1, 2)).best(0, 0, 0, 'x'));
        throwing(INDEX, () -> of(row(1, 2)).best(0, 0, 1, 'x'));
        SparseHall ring = new SparseHall();
        ring.matrix(16, 16);
        for (int i = 0; i < 16; i++) {
            ring.set(0, i, (i + 5) % 16, 999);
        }
        due(ring.best(0, 3, 3, 'a'), 16);
        due(ring.best(0, 3, 3, '+'), 16 * 999);
        needsSquare(y -> y.best(0, 0, 0, '+'));
        needsMatrix((y, m) -> y.best(m, 0, 0, '+'));
    }

    private static void walks() {
        due(ring().walks(0, 15, 0, 2), 2L);
        SparseHall x = of(row(5, -1), row(3, 0));
        due(x.walks(0, 0, 0, 1), 1L);
        due(x.walks(0, 1, 1, 1), 0L);
        due(x.walks(0, 0, 0, 2), 2L);
        due(x.walks(0, 0, 1, 12), 144L);
        SparseHall full = new SparseHall();
        full.matrix(16, 16);
        for (int i = 0; i < 16; i++) {
            for (int j = 0; j < 16; j++) {
                full.set(0, i, j, 1);
            }
        }
        due(full.walks(0, 15, 3, 12), 1L << 44);
        due(of(row(0, 1), row(0, 0)).walks(0, 0, 1, 1), 1L);
        due(of(row(0, 1), row(0, 0)).walks(0, 1, 0, 1), 0L);
        for (int wrongNumber : new int[] {0, 13, -1, Integer.MAX_VALUE}) {
            throwing(ARGUMENT, () -> x.walks(0, 0, 0, wrongNumber));
        }
        throwing(INDEX, () -> x.walks(0, 2, 0, 0));
        throwing(INDEX, () -> x.walks(0, 0, 2, 0));
        throwing(INDEX, () -> x.walks(0, -1, 0, 1));
        throwing(INDEX, () -> x.walks(0, 0, -1, 1));
        throwing(ARGUMENT, () -> of(row(1, 2)).walks(0, 0, 0, 13));
        needsSquare(y -> y.walks(0, 0, 0, 1));
        needsMatrix((y, m) -> y.walks(m, 0, 0, 0));
    }

    // ---- figures

    private static void share() {
        due(of(row(1, 0, 2), row(0, 0, 0)).share(0), 2f / 6f);
        due(of(row(1, 0, 2), row(0, -1, 0), row(0, 0, 0)).share(0), 3f / 9f);
        due(of(row(0)).share(0), 0f);
        due(eye(13).share(0), 13f / 169f);
        due(of(row(5)).share(0), 1f);
        needsMatrix((y, m) -> y.share(m));
    }

    private static void meanCount() {
        due(eye(5).meanCount(0), 1.0);
        due(joined(3, 0, 1, 0, 2).meanCount(0), 2.0);
        SparseHall x = joined(3, 0, 1, 0, 2);
        x.order(0, 'w');
        due(x.meanCount(0), 5.0 / 3.0);
        needsSquare(y -> y.meanCount(0));
        needsMatrix((y, m) -> y.meanCount(m));
    }

    private static void isSound() {
        SparseHall x = of(row(1, 2, 3), row(4, 5, 6), row(7, 8, 9));
        due(x.isSound(), true);
        x.set(0, 0, 0, 997);
        rights(x, 1, -2, 999);
        due(x.isSound(), true);
        x.multiply(0, x.matrix(3, 2));
        put(x, row(1, 2), row(3, -4), row(999, 1));
        x.right(3, 1, -77);
        x.transpose(3);
        x.right(4, 1, 55);
        x.matrix(16, 16);
        due(x.isSound(), true);
        due(x.entry(0, 0, 0), 997);
        due(x.right(0, 2, 1), 999);
        due(ofGreatPrimes(false).isSound(), true);
        due(ofGreatPrimes(true).isSound(), true);
    }
}
