import java.io.IOException;
import java.math.BigInteger;
import java.nio.file.Path;
import java.util.Arrays;
import java.util.function.BiFunction;
import java.util.function.Function;

/**
 * Each sentence of a promise that names a boundary: the last inputs that are still taken, and the
 * first that are refused. It fails for a sentence without a test.
 */
public final class BoundaryTest {
    private static final int[] FAR = {Integer.MIN_VALUE, Integer.MIN_VALUE + 1, -17, 17, 1 << 16, Integer.MAX_VALUE};
    private static final BigInteger TWO = BigInteger.TWO;
    private static final BigInteger MOST_LONG = TWO.pow(63).subtract(BigInteger.ONE);
    private static final BigInteger LEAST_LONG = TWO.pow(63).negate();

    private static Ledger ledger;
    private static String heading = "";

    public static void main(String[] args) throws IOException {
        Path root = Path.of(args.length > 0 ? args[0] : ".");
        ledger = Ledger.of(root.resolve("../shared/DOC.md"), true);
        for (int promise = 1; promise <= 44; promise++) {
            heading = "Promise " + promise;
            run(promise);
        }
        ledger.close("BoundaryTest");
    }

    private static void run(int promise) {
        switch (promise) {
            case 1: newObject(); break;
            case 2: matrix(); break;
            case 3: set(); break;
            case 4: entry(); break;
            case 5: right(); break;
            case 6: exchange(); break;
            case 7: entries(); break;
            case 8: transpose(); break;
            case 9: multiply(); break;
            case 10: foretold(); break;
            case 11: isSymmetric(); break;
            case 12: matched(); break;
            case 13: least(); break;
            case 14: blocks(); break;
            case 15: blockOf(); break;
            case 16: order(); break;
            case 17: ordered(); break;
            case 18: width(); break;
            case 19: parent(); break;
            case 20: countOf(); break;
            case 21: path(); break;
            case 22: fill(); break;
            case 23: supernodes(); break;
            case 24: memory(); break;
            case 25: work(); break;
            case 26: determinant(); break;
            case 27: digits(); break;
            case 28: modulo(); break;
            case 29: rank(); break;
            case 30: vector(); break;
            case 31: answer(); break;
            case 32: answerModulo(); break;
            case 33: inverse(); break;
            case 34: above(); break;
            case 35: floor(); break;
            case 36: steps(); break;
            case 37: kept(); break;
            case 38: aggregate(); break;
            case 39: partsOf(); break;
            case 40: best(); break;
            case 41: walks(); break;
            case 42: share(); break;
            case 43: meanCount(); break;
            default: isSound(); break;
        }
    }

    // ---- what many promises say

    private static void sentence(String beginning) {
        ledger.sentence(heading, beginning);
    }

    /** "No such matrix": numbers go from 0 to that of the last one. */
    private static void numbers(String matrix, int most, BiFunction<SparseHall, Integer, Object> call) {
        sentence("Throws `IndexOutOfBoundsException`");
        ledger.refused(Ledger.INDEX, x -> call.apply(x, 0));
        ledger.refused(Ledger.INDEX, x -> call.apply(x, -1));
        for (int held = 1; held <= most; held++) {
            String[] all = new String[held];
            Arrays.fill(all, matrix);
            int end = held;
            ledger.with(() -> Halls.of(all));
            ledger.answers(x -> call.apply(x, 0));
            ledger.answers(x -> call.apply(x, end - 1));
            ledger.refused(Ledger.INDEX, x -> call.apply(x, -1));
            ledger.refused(Ledger.INDEX, x -> call.apply(x, end));
            for (int far : FAR) {
                ledger.refused(Ledger.INDEX, x -> call.apply(x, far));
            }
        }
    }

    private static void numbers(BiFunction<SparseHall, Integer, Object> call) {
        numbers("2 1 / 1 2 | 1 1", 6, call);
    }

    /** An index from 0 to an end, of the hall of the moment. */
    private static void range(int end, BiFunction<SparseHall, Integer, Object> call) {
        ledger.answers(x -> call.apply(x, 0));
        ledger.answers(x -> call.apply(x, end - 1));
        refusedBeyond(end, call);
    }

    private static void refusedBeyond(int end, BiFunction<SparseHall, Integer, Object> call) {
        ledger.refused(Ledger.INDEX, x -> call.apply(x, -1));
        ledger.refused(Ledger.INDEX, x -> call.apply(x, end));
        for (int far : FAR) {
            ledger.refused(Ledger.INDEX, x -> call.apply(x, far));
        }
    }

    /** An index that is one of the rows of a square matrix. */
    private static void indices(BiFunction<SparseHall, Integer, Object> call) {
        for (int size : new int[] {1, 2, 3, 10}) {
            ledger.with(() -> Halls.eye(size, size));
            range(size, call);
        }
    }

    /** The same up to 16, and, ahead of not being square, of matrices that are not. */
    private static void allIndices(BiFunction<SparseHall, Integer, Object> call) {
        indices(call);
        for (int size : new int[] {11, 16}) {
            ledger.with(() -> Halls.eye(size, size));
            range(size, call);
        }
        ledger.with(() -> Halls.eye(2, 4));
        refusedBeyond(2, call);
        ledger.refused(Ledger.UNSUPPORTED, x -> call.apply(x, 1));
        ledger.with(() -> Halls.eye(4, 2));
        refusedBeyond(4, call);
        ledger.refused(Ledger.UNSUPPORTED, x -> call.apply(x, 3));
    }

    private static void squares(int most, Function<SparseHall, Object> call) {
        sentence("Throws `UnsupportedOperationException`");
        for (int size = 1; size <= most; size++) {
            int side = size;
            ledger.with(() -> Halls.eye(side, side));
            ledger.answers(call);
            if (side > 1) {
                ledger.with(() -> Halls.eye(side, side - 1));
                ledger.refused(Ledger.UNSUPPORTED, call);
                ledger.with(() -> Halls.eye(side - 1, side));
                ledger.refused(Ledger.UNSUPPORTED, call);
            }
        }
        ledger.with(() -> Halls.eye(1, 16));
        ledger.refused(Ledger.UNSUPPORTED, call);
        ledger.with(() -> Halls.eye(16, 1));
        ledger.refused(Ledger.UNSUPPORTED, call);
    }

    /** Ten rows and columns are taken, eleven of either are not, behind the sentence that says so. */
    private static void atMostTen(boolean isSquare, Function<SparseHall, Object> call) {
        ledger.with(() -> Halls.eye(10, 10));
        ledger.answers(call);
        for (int size = 11; size <= 16; size++) {
            int side = size;
            ledger.with(() -> Halls.eye(side, side));
            ledger.refused(Ledger.UNSUPPORTED, call);
        }
        int[] sides = {1, 10};
        for (int side : sides) {
            if (!isSquare) {
                ledger.with(() -> Halls.eye(side, 10));
                ledger.answers(call);
                ledger.with(() -> Halls.eye(10, side));
                ledger.answers(call);
            }
            ledger.with(() -> Halls.eye(side, 11));
            ledger.refused(Ledger.UNSUPPORTED, call);
            ledger.with(() -> Halls.eye(11, side));
            ledger.refused(Ledger.UNSUPPORTED, call);
        }
    }

    /** A number of the call between two limits; also ahead of not being square. */
    private static void limits(int lowest, int highest, BiFunction<SparseHall, Integer, Object> call) {
        ledger.answers(x -> call.apply(x, lowest));
        ledger.answers(x -> call.apply(x, highest));
        int[] wrong = {lowest - 1, highest + 1, lowest - 256, highest + 256, lowest - 65536, highest + 65536,
            Integer.MIN_VALUE, Integer.MAX_VALUE};
        for (int number : wrong) {
            ledger.refused(Ledger.ARGUMENT, x -> call.apply(x, number));
        }
    }

    /** Signs that are kinds, and all others up to 300, and some far ones. */
    private static void kinds(String some, BiFunction<SparseHall, Character, Object> call) {
        for (int sign = 0; sign <= 300; sign++) {
            char kind = (char) sign;
            if (some.indexOf(kind) >= 0) {
                ledger.answers(x -> call.apply(x, kind));
            } else {
                ledger.refused(Ledger.ARGUMENT, x -> call.apply(x, kind));
            }
        }
        for (char kind : some.toCharArray()) {
            ledger.refused(Ledger.ARGUMENT, x -> call.apply(x, (char) (kind + 256)));
            ledger.refused(Ledger.ARGUMENT, x -> call.apply(x, (char) (kind + 0x8000)));
        }
        ledger.refused(Ledger.ARGUMENT, x -> call.apply(x, (char) 0xffff));
    }

    /** Primes from 2 to 997; all other numbers are refused. */
    private static void primes(BiFunction<SparseHall, Integer, Object> call) {
        for (int number = -3; number <= 1100; number++) {
            int prime = number;
            if (number >= 2 && number <= 997 && BigInteger.valueOf(number).isProbablePrime(30)) {
                ledger.answers(x -> call.apply(x, prime));
            } else {
                ledger.refused(Ledger.ARGUMENT, x -> call.apply(x, prime));
            }
        }
        for (int prime : new int[] {-7, -997, 65536 + 7, 2147483647, Integer.MIN_VALUE, Integer.MIN_VALUE + 7}) {
            ledger.refused(Ledger.ARGUMENT, x -> call.apply(x, prime));
        }
    }

    private static void simple(BiFunction<SparseHall, Integer, Object> call) {
        numbers(call);
        ledger.with(() -> Halls.blank(1, 16));
        ledger.answers(x -> call.apply(x, 0));
        ledger.with(() -> Halls.blank(16, 1));
        ledger.answers(x -> call.apply(x, 0));
        ledger.with(() -> Halls.blank(16, 16));
        ledger.answers(x -> call.apply(x, 0));
    }

    private static void square(BiFunction<SparseHall, Integer, Object> call) {
        numbers(call);
        squares(16, x -> call.apply(x, 0));
    }

    /** A call with a matrix and an index. */
    private interface Indexed {
        Object run(SparseHall hall, int matrix, int index);
    }

    private static void indexed(Indexed call) {
        numbers((x, m) -> call.run(x, m, 0));
        ledger.with(Halls.told("1 2 3 / 4 5 6"));
        ledger.refused(Ledger.INDEX, x -> call.run(x, 1, 0));
        allIndices((x, i) -> call.run(x, 0, i));
        squares(16, x -> call.run(x, 0, 0));
    }

    // ---- great numbers

    /** Whole numbers beside the ends of a long, of which the far ones would wrap round to near ones. */
    private static void longs(boolean isSigned, Function<BigInteger, SparseHall> make, Function<SparseHall, Object> call) {
        BigInteger[] near = {MOST_LONG, MOST_LONG.subtract(BigInteger.ONE), BigInteger.TEN.pow(18), TWO.pow(62),
            TWO.pow(32), TWO.pow(31), BigInteger.ONE};
        for (BigInteger number : near) {
            ledger.with(() -> make.apply(number));
            ledger.taken(number.longValueExact(), call);
            ledger.with(() -> make.apply(number.negate()));
            ledger.taken(isSigned ? -number.longValueExact() : number.longValueExact(), call);
        }
        ledger.with(() -> make.apply(LEAST_LONG));
        if (isSigned) {
            ledger.taken(Long.MIN_VALUE, call);
            ledger.with(() -> make.apply(LEAST_LONG.add(BigInteger.ONE)));
            ledger.taken(Long.MIN_VALUE + 1, call);
        } else {
            ledger.refused(Ledger.ARITHMETIC, call);
        }
        BigInteger[] far = {MOST_LONG.add(BigInteger.ONE), MOST_LONG.add(TWO), TWO.pow(64).subtract(BigInteger.ONE),
            TWO.pow(64), TWO.pow(64).add(BigInteger.ONE), TWO.pow(65).add(BigInteger.TEN), TWO.pow(66),
            BigInteger.TEN.pow(19).subtract(BigInteger.ONE), BigInteger.TEN.pow(19), BigInteger.TEN.pow(20),
            TWO.pow(64).add(MOST_LONG)};
        for (BigInteger number : far) {
            ledger.with(() -> make.apply(number));
            ledger.refused(Ledger.ARITHMETIC, call);
            if (number != far[0]) {
                ledger.with(() -> make.apply(number.negate()));
                ledger.refused(Ledger.ARITHMETIC, call);
            }
        }
        ledger.with(() -> make.apply(LEAST_LONG.subtract(BigInteger.ONE)));
        ledger.refused(Ledger.ARITHMETIC, call);
    }

    // ---- matrices

    private static void newObject() {
        sentence("Creates a hall without matrices.");
        ledger.refused(Ledger.INDEX, x -> x.entries(0));
        ledger.refused(Ledger.INDEX, x -> x.transpose(0));
        ledger.taken(true, SparseHall::isSound);
        ledger.taken(0, x -> x.matrix(1, 1));
    }

    private static void matrix() {
        sentence("Throws `IllegalArgumentException`");
        for (int side = 1; side <= 16; side++) {
            int size = side;
            ledger.taken(0, x -> x.matrix(size, 1));
            ledger.taken(0, x -> x.matrix(1, size));
            ledger.taken(0, x -> x.matrix(size, 17 - size));
            ledger.taken(0, x -> x.matrix(size, 16));
        }
        int[] wrong = {0, -1, -16, 17, 18, 256, 257, 65537, Integer.MAX_VALUE, Integer.MIN_VALUE};
        for (int size : wrong) {
            ledger.refused(Ledger.ARGUMENT, x -> x.matrix(size, 1));
            ledger.refused(Ledger.ARGUMENT, x -> x.matrix(1, size));
            ledger.refused(Ledger.ARGUMENT, x -> x.matrix(16, size));
            ledger.refused(Ledger.ARGUMENT, x -> x.matrix(size, size));
        }
        ledger.with(Halls.told("1", "1", "1", "1", "1", "1"));
        ledger.refused(Ledger.ARGUMENT, x -> x.matrix(0, 1));
        ledger.refused(Ledger.ARGUMENT, x -> x.matrix(1, 17));
        sentence("Throws `IllegalStateException`");
        String[] held = new String[0];
        for (int number = 0; number < 6; number++) {
            String[] all = held;
            ledger.with(() -> Halls.of(all));
            ledger.taken(number, x -> x.matrix(16, 16));
            held = Arrays.copyOf(held, number + 1);
            held[number] = "1 2";
        }
        String[] full = held;
        ledger.with(() -> Halls.of(full));
        ledger.refused(Ledger.STATE, x -> x.matrix(1, 1));
        ledger.refused(Ledger.STATE, x -> x.matrix(16, 16));
    }

    private static void set() {
        numbers((x, m) -> x.set(m, 0, 0, 1));
        for (int[] size : new int[][] {{1, 1}, {2, 5}, {5, 2}, {16, 16}, {1, 16}, {16, 1}}) {
            ledger.with(() -> Halls.blank(size[0], size[1]));
            range(size[0], (x, i) -> x.set(0, i, 0, 9));
            range(size[1], (x, j) -> x.set(0, 0, j, 9));
            refusedBeyond(size[0], (x, i) -> x.set(0, i, size[1] - 1, 1000));
            refusedBeyond(size[1], (x, j) -> x.set(0, size[0] - 1, j, -1000));
        }
        sentence("- `entry`: the entry, -999 to 999");
        ledger.with(Halls.told("-999 999"));
        ledger.taken(-999, x -> x.set(0, 0, 0, 999));
        ledger.taken(999, x -> x.set(0, 0, 1, -999));
        ledger.taken(999, x -> x.set(0, 0, 0, 999) + x.set(0, 0, 0, -999) + x.set(0, 0, 0, 0) + 1998);
        sentence("Throws `IllegalArgumentException`");
        ledger.with(Halls.told("1 2 / 3 4"));
        limits(-999, 999, (x, entry) -> x.set(0, 1, 1, entry));
        ledger.taken(4, x -> x.set(0, 1, 1, 0));
    }

    private static void entry() {
        numbers((x, m) -> x.entry(m, 0, 0));
        for (int[] size : new int[][] {{1, 1}, {2, 5}, {5, 2}, {16, 16}, {1, 16}, {16, 1}}) {
            ledger.with(() -> Halls.blank(size[0], size[1]));
            range(size[0], (x, i) -> x.entry(0, i, 0));
            range(size[1], (x, j) -> x.entry(0, 0, j));
            refusedBeyond(size[0], (x, i) -> x.entry(0, i, size[1] - 1));
            refusedBeyond(size[1], (x, j) -> x.entry(0, size[0] - 1, j));
        }
    }

    private static void right() {
        numbers((x, m) -> x.right(m, 0, 1));
        for (int[] size : new int[][] {{1, 1}, {2, 5}, {5, 2}, {16, 16}, {1, 16}, {16, 1}}) {
            ledger.with(() -> Halls.blank(size[0], size[1]));
            range(size[0], (x, i) -> x.right(0, i, 9));
            refusedBeyond(size[0], (x, i) -> x.right(0, i, 1000));
        }
        sentence("- `number`: the number, -999 to 999");
        ledger.with(Halls.told("1 / 2 | -999 999"));
        ledger.taken(-999, x -> x.right(0, 0, 999));
        ledger.taken(999, x -> x.right(0, 1, -999));
        sentence("Throws `IllegalArgumentException`");
        ledger.with(Halls.told("1 2 / 3 4 | 5 6"));
        limits(-999, 999, (x, number) -> x.right(0, 1, number));
        ledger.taken(6, x -> x.right(0, 1, 0));
    }

    private static void exchange() {
        numbers((x, m) -> x.exchange(m, true, 0, 1));
        for (int[] size : new int[][] {{1, 1}, {2, 5}, {5, 2}, {16, 16}, {1, 16}, {16, 1}}) {
            ledger.with(() -> Halls.eye(size[0], size[1]));
            range(size[0], (x, i) -> x.exchange(0, true, i, 0));
            range(size[0], (x, i) -> x.exchange(0, true, 0, i));
            range(size[1], (x, j) -> x.exchange(0, false, j, 0));
            range(size[1], (x, j) -> x.exchange(0, false, 0, j));
        }
        sentence("- `other`: another one, or the same");
        ledger.with(Halls.told("1 0 3 / 0 5 0 / 7 0 9 | 1 2 3"));
        ledger.taken(2, x -> x.exchange(0, true, 0, 0));
        ledger.taken(1, x -> x.exchange(0, true, 1, 1));
        ledger.taken(3, x -> x.exchange(0, true, 0, 1));
        ledger.taken(4, x -> x.exchange(0, true, 2, 0));
        ledger.taken(2, x -> x.exchange(0, false, 2, 2));
        ledger.taken(3, x -> x.exchange(0, false, 1, 2));
        ledger.taken(4, x -> x.exchange(0, false, 0, 2));
        ledger.taken("1 0 3 / 0 5 0 / 7 0 9 1 2 3 4", x -> {
            int counted = x.exchange(0, true, 2, 2) + x.exchange(0, false, 1, 1) + x.exchange(0, false, 0, 0) - 1;
            return Halls.cellsOf(x, 0, 3, 3) + " " + x.right(0, 0, 0) + " " + x.right(0, 1, 0) + " " + x.right(0, 2, 0)
                    + " " + counted;
        });
        ledger.taken("7 0 9 / 0 5 0 / 1 0 3 3 1", x -> {
            x.exchange(0, true, 2, 0);
            return Halls.cellsOf(x, 0, 3, 3) + " " + x.right(0, 0, 0) + " " + x.right(0, 2, 0);
        });
        ledger.taken("3 0 1 / 0 5 0 / 9 0 7 1 3", x -> {
            x.exchange(0, false, 2, 0);
            return Halls.cellsOf(x, 0, 3, 3) + " " + x.right(0, 0, 0) + " " + x.right(0, 2, 0);
        });
        ledger.with(() -> Halls.filled(16, 16, 1));
        ledger.taken(32, x -> x.exchange(0, true, 0, 15));
        ledger.taken(16, x -> x.exchange(0, false, 15, 15));
        ledger.with(() -> Halls.blank(16, 16));
        ledger.taken(0, x -> x.exchange(0, false, 0, 15));
    }

    private static void entries() {
        simple(SparseHall::entries);
        sentence("Returns how many entries are not 0.");
        for (int[] size : new int[][] {{1, 1}, {2, 5}, {5, 2}, {16, 16}, {1, 16}, {16, 1}}) {
            ledger.with(() -> Halls.blank(size[0], size[1]));
            ledger.taken(0, x -> x.entries(0));
            ledger.taken(1, x -> x.set(0, size[0] - 1, size[1] - 1, -1) + x.entries(0));
            ledger.taken(0, x -> x.right(0, size[0] - 1, 5) + x.entries(0));
            ledger.with(() -> Halls.filled(size[0], size[1], -999));
            ledger.taken(size[0] * size[1], x -> x.entries(0));
            ledger.taken(size[0] * size[1] - 1 - 999, x -> x.set(0, 0, 0, 0) + x.entries(0));
        }
    }

    private static void transpose() {
        numbers("1 2 / 3 4 | 5 6", 5, (x, m) -> x.transpose(m));
        sentence("Adds the transposed matrix, with a right side of 0.");
        ledger.with(Halls.told("1 2 3 / 4 5 6 | 7 8"));
        ledger.taken("1 4 / 2 5 / 3 6 0 0 0", x -> {
            int number = x.transpose(0);
            return Halls.cellsOf(x, number, 3, 2) + " " + x.right(1, 0, 0) + " " + x.right(1, 1, 0) + " " + x.right(1, 2, 0);
        });
        ledger.taken(8, x -> x.right(x.transpose(0) - 1, 1, 0));
        ledger.with(Halls.told("1 2 / 3 4 | 5 6"));
        ledger.taken("1 3 / 2 4 0 0", x -> {
            int number = x.transpose(0);
            return Halls.cellsOf(x, number, 2, 2) + " " + x.right(1, 0, 0) + " " + x.right(1, 1, 0);
        });
        for (int[] size : new int[][] {{1, 16}, {16, 1}, {16, 16}}) {
            ledger.with(() -> Halls.filled(size[0], size[1], 4));
            ledger.taken(4, x -> x.entry(x.transpose(0), size[1] - 1, size[0] - 1));
            ledger.refused(Ledger.INDEX, x -> x.entry(0, size[0], 0));
        }
        sentence("Throws `IllegalStateException`");
        ledger.with(Halls.told("1 2", "1", "1", "1", "3"));
        ledger.taken(5, x -> x.transpose(0));
        ledger.taken(5, x -> x.transpose(4));
        ledger.with(Halls.told("1 2", "1", "1", "1", "3", "4 / 5"));
        ledger.refused(Ledger.STATE, x -> x.transpose(0));
        ledger.refused(Ledger.STATE, x -> x.transpose(5));
        ledger.refused(Ledger.INDEX, x -> x.transpose(6));
        ledger.refused(Ledger.INDEX, x -> x.transpose(-1));
    }

    private static void multiply() {
        numbers("1 2 / 3 4 | 5 6", 5, (x, m) -> x.multiply(m, 0));
        numbers("1 2 / 3 4 | 5 6", 5, (x, m) -> x.multiply(0, m));
        ledger.with(Halls.told("1", "1", "1", "1", "1", "1"));
        ledger.refused(Ledger.INDEX, x -> x.multiply(0, 6));
        ledger.refused(Ledger.INDEX, x -> x.multiply(-1, 0));
        sentence("Adds the product of two matrices, with a right side of 0.");
        ledger.with(Halls.told("1 2 / 3 4 / 5 6 | 7 8 9", "1 0 -1 2 / 0 1 3 0 | 7 8"));
        ledger.taken("1 2 5 2 / 3 4 9 6 / 5 6 13 10 0 0 0", x -> {
            int number = x.multiply(0, 1);
            return Halls.cellsOf(x, number, 3, 4) + " " + x.right(2, 0, 0) + " " + x.right(2, 1, 0) + " " + x.right(2, 2, 0);
        });
        ledger.taken("7 8", x -> x.right(x.multiply(0, 1) - 2, 0, 0) + " " + x.right(1, 1, 0));
        ledger.with(() -> {
            SparseHall hall = Halls.filled(16, 1, 3);
            hall.matrix(1, 16);
            hall.set(1, 0, 15, 7);
            return hall;
        });
        ledger.taken(21, x -> x.entry(x.multiply(0, 1), 15, 15));
        ledger.taken(21, x -> x.entry(x.multiply(1, 0), 0, 0));
        sentence("- `other`: the second one, or the same");
        ledger.with(Halls.told("1 2 / 3 4", "0 1 / 1 0"));
        ledger.taken("7 10 / 15 22", x -> Halls.cellsOf(x, x.multiply(0, 0), 2, 2));
        ledger.taken("2 1 / 4 3", x -> Halls.cellsOf(x, x.multiply(0, 1), 2, 2));
        ledger.taken("3 4 / 1 2", x -> Halls.cellsOf(x, x.multiply(1, 0), 2, 2));
        sentence("Throws `UnsupportedOperationException`");
        ledger.with(Halls.told("1 2 / 3 4 / 5 6", "1 2 3 / 4 5 6", "1 2"));
        ledger.taken(3, x -> x.multiply(0, 1));
        ledger.taken(3, x -> x.multiply(1, 0));
        ledger.taken(3, x -> x.multiply(2, 1));
        ledger.refused(Ledger.UNSUPPORTED, x -> x.multiply(0, 0));
        ledger.refused(Ledger.UNSUPPORTED, x -> x.multiply(1, 1));
        ledger.refused(Ledger.UNSUPPORTED, x -> x.multiply(2, 2));
        ledger.refused(Ledger.UNSUPPORTED, x -> x.multiply(1, 2));
        ledger.refused(Ledger.UNSUPPORTED, x -> x.multiply(0, 2));
        // 999 and 1000, of one product and of sums, of either sign, in the first place and the last one
        ledger.with(Halls.told("27 1 / 0 27", "37 0 / 0 37", "-37 0 / 0 -37", "37 1 / 0 37"));
        ledger.taken("999 37 / 0 999", x -> Halls.cellsOf(x, x.multiply(0, 1), 2, 2));
        ledger.taken("-999 -37 / 0 -999", x -> Halls.cellsOf(x, x.multiply(0, 2), 2, 2));
        ledger.taken("999 64 / 0 999", x -> Halls.cellsOf(x, x.multiply(0, 3), 2, 2));
        for (String sign : new String[] {"", "-"}) {
            ledger.with(Halls.told("10 0 / 0 1", sign + "100 0 / 0 1"));
            ledger.refused(Ledger.UNSUPPORTED, x -> x.multiply(0, 1));
            ledger.with(Halls.told("1 0 / 0 10", "1 0 / 0 " + sign + "100"));
            ledger.refused(Ledger.UNSUPPORTED, x -> x.multiply(0, 1));
            ledger.with(Halls.told("999 1", sign + "1 / " + sign + "1"));
            ledger.refused(Ledger.UNSUPPORTED, x -> x.multiply(0, 1));
            ledger.with(Halls.told("998 1", sign + "1 / " + sign + "1"));
            ledger.taken(sign.isEmpty() ? 999 : -999, x -> x.entry(x.multiply(0, 1), 0, 0));
        }
        // sums on the way may be greater
        ledger.with(Halls.told("999 999 1", "999 / -999 / 7"));
        ledger.taken(7, x -> x.entry(x.multiply(0, 1), 0, 0));
        ledger.with(() -> Halls.filled(16, 16, 999));
        ledger.refused(Ledger.UNSUPPORTED, x -> x.multiply(0, 0));
        sentence("Throws `IllegalStateException`");
        ledger.with(Halls.told("1 2", "1", "2", "3", "4"));
        ledger.taken(5, x -> x.multiply(4, 1));
        ledger.with(Halls.told("1 2", "1", "2", "3", "999", "2"));
        ledger.refused(Ledger.STATE, x -> x.multiply(1, 1));
        ledger.refused(Ledger.STATE, x -> x.multiply(5, 5));
        ledger.refused(Ledger.UNSUPPORTED, x -> x.multiply(0, 0));
        ledger.refused(Ledger.UNSUPPORTED, x -> x.multiply(4, 5));
        ledger.refused(Ledger.INDEX, x -> x.multiply(6, 0));
    }

    private static void foretold() {
        numbers((x, m) -> x.foretold(m, 0));
        numbers((x, m) -> x.foretold(0, m));
        sentence("Returns how many entries of the product");
        ledger.with(Halls.told("1 -1 / 0 1", "1 0 / 1 0"));
        ledger.taken(2, x -> x.foretold(0, 1));
        ledger.taken(4, x -> x.foretold(1, 0));
        ledger.taken(1, x -> x.entries(x.multiply(0, 1)));
        ledger.with(() -> Halls.blank(16, 16));
        ledger.taken(0, x -> x.foretold(0, 0));
        sentence("- `other`: the second one, or the same");
        ledger.with(Halls.told("0 1 / 0 0", "0 0 / 1 0"));
        ledger.taken(0, x -> x.foretold(0, 0));
        ledger.taken(1, x -> x.foretold(0, 1));
        ledger.with(() -> Halls.filled(16, 16, 999));
        ledger.taken(256, x -> x.foretold(0, 0));
        sentence("Throws `UnsupportedOperationException`");
        ledger.with(Halls.told("1 2 / 3 4 / 5 6", "1 2 3 / 4 5 6", "999 -999", "999 / 999", "1", "1"));
        ledger.taken(9, x -> x.foretold(0, 1));
        ledger.taken(4, x -> x.foretold(1, 0));
        ledger.taken(1, x -> x.foretold(2, 3));
        ledger.taken(4, x -> x.foretold(3, 2));
        ledger.refused(Ledger.UNSUPPORTED, x -> x.foretold(0, 0));
        ledger.refused(Ledger.UNSUPPORTED, x -> x.foretold(1, 1));
        ledger.refused(Ledger.UNSUPPORTED, x -> x.foretold(1, 2));
        ledger.refused(Ledger.UNSUPPORTED, x -> x.foretold(2, 2));
    }

    private static void isSymmetric() {
        simple(SparseHall::isSymmetric);
        sentence("Returns whether it is.");
        for (int size : new int[] {1, 2, 16}) {
            ledger.with(() -> Halls.blank(size, size));
            ledger.taken(true, x -> x.isSymmetric(0));
            ledger.with(() -> Halls.filled(size, size, -999));
            ledger.taken(true, x -> x.isSymmetric(0));
            ledger.taken(size == 1, x -> x.set(0, 0, size - 1, 1) == -999 && x.isSymmetric(0));
            ledger.taken(size == 1, x -> x.set(0, size - 1, 0, 999) == -999 && x.isSymmetric(0));
        }
        ledger.with(() -> Halls.blank(2, 3));
        ledger.taken(false, x -> x.isSymmetric(0));
        ledger.with(() -> Halls.blank(3, 2));
        ledger.taken(false, x -> x.isSymmetric(0));
    }

    // ---- matchings

    private static void matched() {
        simple(SparseHall::matched);
        sentence("Returns how many entries the greatest matching has.");
        for (int[] size : new int[][] {{1, 1}, {2, 5}, {5, 2}, {16, 16}, {1, 16}, {16, 1}}) {
            int less = Math.min(size[0], size[1]);
            ledger.with(() -> Halls.blank(size[0], size[1]));
            ledger.taken(0, x -> x.matched(0));
            ledger.with(() -> Halls.filled(size[0], size[1], -1));
            ledger.taken(less, x -> x.matched(0));
            ledger.with(() -> Halls.eye(size[0], size[1]));
            ledger.taken(less, x -> x.matched(0));
            ledger.taken(less - 1, x -> x.set(0, less - 1, less - 1, 0) - 1 + x.matched(0));
        }
    }

    private static void least() {
        numbers(SparseHall::least);
        sentence("Throws `NoSuchElementException`");
        for (int[] size : new int[][] {{1, 1}, {2, 3}, {3, 2}, {16, 16}, {1, 16}, {16, 1}}) {
            ledger.with(() -> Halls.blank(size[0], size[1]));
            ledger.refused(Ledger.NO_ELEMENT, x -> x.least(0));
            for (int entry : new int[] {1, -1, 999, -999}) {
                ledger.with(() -> {
                    SparseHall hall = Halls.blank(size[0], size[1]);
                    hall.set(0, size[0] - 1, size[1] - 1, entry);
                    return hall;
                });
                ledger.taken(Math.abs(entry), x -> x.least(0));
            }
        }
        ledger.with(Halls.told("0 0 / 0 0 | 1 1"));
        ledger.refused(Ledger.NO_ELEMENT, x -> x.least(0));
    }

    private static void blocks() {
        numbers((x, m) -> x.blocks(m));
        squares(16, x -> x.blocks(0));
        withoutMatching(x -> x.blocks(0));
    }

    /** One entry less, and a row is left over; that the determinant is 0 does not matter. */
    private static void withoutMatching(Function<SparseHall, Object> call) {
        for (int size : new int[] {1, 2, 3, 16}) {
            ledger.with(() -> Halls.blank(size, size));
            ledger.refused(Ledger.UNSUPPORTED, call);
            for (int gap : new int[] {0, size - 1}) {
                ledger.with(() -> {
                    SparseHall hall = Halls.eye(size, size);
                    hall.set(0, gap, gap, 0);
                    return hall;
                });
                ledger.refused(Ledger.UNSUPPORTED, call);
            }
        }
        ledger.with(Halls.told("1 2 / 2 4"));
        ledger.answers(call);
        ledger.with(Halls.told("1 1 0 / 1 0 0 / 1 0 0"));
        ledger.refused(Ledger.UNSUPPORTED, call);
        ledger.with(Halls.told("1 1 0 / 1 0 0 / 1 0 1"));
        ledger.answers(call);
        ledger.with(() -> Halls.filled(2, 3, 1));
        ledger.refused(Ledger.UNSUPPORTED, call);
        ledger.with(() -> Halls.filled(3, 2, 1));
        ledger.refused(Ledger.UNSUPPORTED, call);
    }

    private static void blockOf() {
        numbers((x, m) -> x.blockOf(m, 0));
        allIndices((x, i) -> x.blockOf(0, i));
        ledger.with(Halls.told("1 1 / 0 0"));
        refusedBeyond(2, (x, i) -> x.blockOf(0, i));
        squares(16, x -> x.blockOf(0, 0));
        withoutMatching(x -> x.blockOf(0, 0));
    }

    // ---- orders and trees

    private static void order() {
        numbers((x, m) -> x.order(m, 's'));
        ledger.with(() -> Halls.way(4));
        ledger.refused(Ledger.INDEX, x -> x.order(1, 'x'));
        sentence("- `kind`: 'n', 'd', 'w' or 's'");
        ledger.with(() -> Halls.joined(5, 0, 1, 0, 2, 0, 3, 0, 4));
        ledger.taken(0, x -> x.order(0, 'n'));
        ledger.taken(1, x -> x.order(0, 'd'));
        ledger.taken(4, x -> x.order(0, 'w'));
        ledger.with(() -> Halls.way(4));
        ledger.taken("0 2 3 1", x -> {
            x.order(0, 's');
            return Halls.orderOf(x, 0, 4);
        });
        sentence("Throws `IllegalArgumentException`");
        ledger.with(() -> {
            SparseHall hall = Halls.joined(5, 0, 1, 0, 2, 0, 3, 0, 4);
            hall.order(0, 'w');
            return hall;
        });
        kinds("ndws", (x, kind) -> x.order(0, kind));
        ledger.with(() -> Halls.eye(2, 3));
        ledger.refused(Ledger.ARGUMENT, x -> x.order(0, 'x'));
        for (char kind : "ndws".toCharArray()) {
            squares(16, x -> x.order(0, kind));
        }
    }

    private static void ordered() {
        numbers((x, m) -> x.ordered(m, 0));
        sentence("- `place`: the place, from 0");
        ledger.with(() -> {
            SparseHall hall = Halls.joined(5, 0, 1, 0, 2, 0, 3, 0, 4);
            hall.order(0, 'w');
            return hall;
        });
        ledger.taken(4, x -> x.ordered(0, 0));
        ledger.taken(1, x -> x.ordered(0, 4));
        sentence("Throws `IndexOutOfBoundsException`");
        allIndices((x, i) -> x.ordered(0, i));
        squares(16, x -> x.ordered(0, 0));
    }

    private static void width() {
        numbers((x, m) -> x.width(m));
        sentence("Returns the width, 0 if none are joined.");
        for (int size : new int[] {1, 2, 16}) {
            ledger.with(() -> Halls.blank(size, size));
            ledger.taken(0, x -> x.width(0));
            ledger.with(() -> Halls.eye(size, size));
            ledger.taken(0, x -> x.width(0));
        }
        ledger.with(Halls.told("0 1 / 0 0"));
        ledger.taken(1, x -> x.width(0));
        ledger.with(() -> Halls.joined(16, 0, 15));
        ledger.taken(15, x -> x.width(0));
        ledger.with(() -> Halls.joined(16, 15, 14));
        ledger.taken(1, x -> x.width(0));
        squares(16, x -> x.width(0));
    }

    private static void parent() {
        sentence("Returns the parent, -1 for none.");
        ledger.with(() -> Halls.way(16));
        ledger.taken(15, x -> x.parent(0, 14));
        ledger.taken(-1, x -> x.parent(0, 15));
        ledger.taken(1, x -> x.parent(0, 0));
        ledger.with(() -> Halls.eye(16, 16));
        ledger.taken(-1, x -> x.parent(0, 0));
        ledger.with(Halls.told("5"));
        ledger.taken(-1, x -> x.parent(0, 0));
        ledger.with(() -> Halls.joined(4, 3, 0));
        ledger.taken(3, x -> x.parent(0, 0));
        ledger.taken(-1, x -> x.parent(0, 1));
        indexed(SparseHall::parent);
    }

    private static void countOf() {
        sentence("Returns the count.");
        ledger.with(() -> Halls.eye(16, 16));
        ledger.taken(1, x -> x.countOf(0, 0));
        ledger.with(() -> Halls.filled(16, 16, 1));
        ledger.taken(16, x -> x.countOf(0, 0));
        ledger.taken(1, x -> x.countOf(0, 15));
        indexed(SparseHall::countOf);
    }

    private static void path() {
        sentence("Returns how many indices are changed");
        ledger.with(() -> Halls.eye(16, 16));
        ledger.taken(1, x -> x.path(0, 0));
        ledger.with(() -> Halls.way(16));
        ledger.taken(16, x -> x.path(0, 0));
        ledger.taken(1, x -> x.path(0, 15));
        indexed(SparseHall::path);
    }

    private static void fill() {
        sentence("Returns the fill.");
        ledger.with(() -> Halls.blank(16, 16));
        ledger.taken(0, x -> x.fill(0));
        ledger.with(() -> Halls.filled(16, 16, 1));
        ledger.taken(0, x -> x.fill(0));
        ledger.with(() -> Halls.joined(16, 0, 1, 0, 2, 0, 3, 0, 4, 0, 5, 0, 6, 0, 7, 0, 8, 0, 9, 0, 10, 0, 11, 0, 12,
                0, 13, 0, 14, 0, 15));
        ledger.taken(105, x -> x.fill(0));
        ledger.taken(0, x -> x.order(0, 'd') - 1 + x.fill(0));
        square(SparseHall::fill);
    }

    private static void supernodes() {
        sentence("Returns how many supernodes there are.");
        ledger.with(() -> Halls.blank(16, 16));
        ledger.taken(16, x -> x.supernodes(0));
        ledger.with(() -> Halls.filled(16, 16, 1));
        ledger.taken(1, x -> x.supernodes(0));
        ledger.with(() -> Halls.way(16));
        ledger.taken(15, x -> x.supernodes(0));
        square(SparseHall::supernodes);
    }

    private static void memory() {
        sentence("Returns the memory.");
        ledger.with(() -> Halls.blank(16, 16));
        ledger.taken(1, x -> x.memory(0));
        ledger.with(() -> Halls.filled(16, 16, 1));
        ledger.taken(225 + 225, x -> x.memory(0));
        square(SparseHall::memory);
    }

    private static void work() {
        numbers((x, m) -> x.work(m, 1));
        ledger.with(Halls.told("1"));
        ledger.refused(Ledger.INDEX, x -> x.work(1, 0));
        sentence("- `processors`: how many processors, 1 to 4");
        ledger.with(() -> Halls.eye(9, 9));
        ledger.taken(9, x -> x.work(0, 1));
        ledger.taken(5, x -> x.work(0, 2));
        ledger.taken(3, x -> x.work(0, 3));
        ledger.taken(3, x -> x.work(0, 4));
        ledger.with(() -> Halls.eye(1, 1));
        ledger.taken(1, x -> x.work(0, 4));
        ledger.with(() -> Halls.filled(16, 16, 1));
        ledger.taken(1496, x -> x.work(0, 1));
        ledger.taken(1496, x -> x.work(0, 4));
        sentence("Throws `IllegalArgumentException`");
        ledger.with(() -> Halls.way(5));
        limits(1, 4, (x, number) -> x.work(0, number));
        ledger.with(() -> Halls.eye(2, 3));
        ledger.refused(Ledger.ARGUMENT, x -> x.work(0, 0));
        ledger.refused(Ledger.ARGUMENT, x -> x.work(0, 5));
        squares(16, x -> x.work(0, 4));
    }

    // ---- exact numbers

    private static void determinant() {
        numbers((x, m) -> x.determinant(m));
        squares(10, x -> x.determinant(0));
        atMostTen(true, x -> x.determinant(0));
        sentence("Throws `ArithmeticException`");
        longs(true, number -> Halls.withDeterminant(number, 7), x -> x.determinant(0));
        longs(true, number -> Halls.withDeterminant(number, 10), x -> x.determinant(0));
        for (int power = 19; power <= 29; power++) {
            BigInteger number = BigInteger.TEN.pow(power);
            ledger.with(() -> Halls.withDeterminant(number, 10));
            ledger.refused(Ledger.ARITHMETIC, x -> x.determinant(0));
            ledger.with(() -> Halls.withDeterminant(number.add(TWO).negate(), 10));
            ledger.refused(Ledger.ARITHMETIC, x -> x.determinant(0));
        }
        ledger.with(() -> Halls.blank(10, 10));
        ledger.taken(0L, x -> x.determinant(0));
        ledger.with(Halls::greatest);
        ledger.refused(Ledger.ARITHMETIC, x -> x.determinant(0));
    }

    private static void digits() {
        numbers((x, m) -> x.digits(m));
        squares(10, x -> x.digits(0));
        atMostTen(true, x -> x.digits(0));
        sentence("Returns how many digits the determinant has, 1 for 0.");
        for (int size : new int[] {1, 2, 10}) {
            ledger.with(() -> Halls.blank(size, size));
            ledger.taken(1, x -> x.digits(0));
            ledger.with(() -> Halls.filled(size, size, size == 1 ? 0 : 999));
            ledger.taken(1, x -> x.digits(0));
        }
        for (int count = 1; count <= 29; count++) {
            BigInteger least = BigInteger.TEN.pow(count - 1);
            BigInteger most = BigInteger.TEN.pow(count).subtract(BigInteger.ONE);
            for (BigInteger number : new BigInteger[] {least, most, least.negate(), most.negate()}) {
                ledger.with(() -> Halls.withDeterminant(number, 10));
                ledger.taken(number.abs().toString().length(), x -> x.digits(0));
            }
        }
        sentence("Returns the decimal digits, without a sign.");
        ledger.with(Halls.told("-9"));
        ledger.taken(1, x -> x.digits(0));
        ledger.with(Halls.told("-10"));
        ledger.taken(2, x -> x.digits(0));
        ledger.with(Halls::greatest);
        ledger.taken(35, x -> x.digits(0));
        ledger.taken(35, x -> {
            x.exchange(0, true, 0, 9);
            return x.digits(0);
        });
    }

    private static void modulo() {
        numbers((x, m) -> x.modulo(m, 7));
        ledger.with(Halls.told("1"));
        ledger.refused(Ledger.INDEX, x -> x.modulo(1, 4));
        sentence("- `prime`: the prime, 2 to 997");
        ledger.with(Halls.told("5 3 / 3 1"));
        ledger.taken(0, x -> x.modulo(0, 2));
        ledger.taken(2, x -> x.modulo(0, 3));
        ledger.taken(993, x -> x.modulo(0, 997));
        sentence("Returns the remainder, 0 to the prime less 1.");
        for (int prime : new int[] {2, 3, 991, 997}) {
            for (int number = -999; number <= 999; number += number < -990 || number > 985 ? 1 : 197) {
                int entry = number;
                ledger.with(() -> Halls.diagonal(1, 1, entry));
                ledger.taken(Math.floorMod(entry, prime), x -> x.modulo(0, prime));
            }
        }
        BigInteger great = BigInteger.TEN.pow(29).add(BigInteger.TWO);
        ledger.with(() -> Halls.withDeterminant(great, 10));
        ledger.taken(great.mod(BigInteger.valueOf(997)).intValue(), x -> x.modulo(0, 997));
        ledger.with(() -> Halls.withDeterminant(great.negate(), 10));
        ledger.taken(great.negate().mod(BigInteger.valueOf(997)).intValue(), x -> x.modulo(0, 997));
        sentence("Throws `IllegalArgumentException`");
        ledger.with(Halls.told("2 1 / 1 3"));
        primes((x, prime) -> x.modulo(0, prime));
        ledger.with(() -> Halls.eye(2, 3));
        ledger.refused(Ledger.ARGUMENT, x -> x.modulo(0, 1));
        ledger.refused(Ledger.ARGUMENT, x -> x.modulo(0, 998));
        squares(16, x -> x.modulo(0, 997));
    }

    private static void rank() {
        numbers((x, m) -> x.rank(m));
        sentence("Throws `UnsupportedOperationException`");
        atMostTen(false, x -> x.rank(0));
        ledger.with(() -> Halls.eye(16, 16));
        ledger.refused(Ledger.UNSUPPORTED, x -> x.rank(0));
    }

    private static void vector() {
        numbers("1 2 / 2 4", 6, (x, m) -> x.vector(m, 0));
        for (int[] size : new int[][] {{1, 2}, {2, 5}, {5, 2}, {10, 10}, {1, 10}, {10, 1}}) {
            ledger.with(() -> Halls.blank(size[0], size[1]));
            range(size[1], (x, j) -> x.vector(0, j));
        }
        ledger.with(() -> Halls.eye(11, 3));
        refusedBeyond(3, (x, j) -> x.vector(0, j));
        ledger.with(() -> Halls.eye(3, 3));
        refusedBeyond(3, (x, j) -> x.vector(0, j));
        sentence("Throws `UnsupportedOperationException`");
        for (int[] size : new int[][] {{10, 10}, {1, 10}, {10, 1}}) {
            ledger.with(() -> Halls.blank(size[0], size[1]));
            ledger.taken(1L, x -> x.vector(0, 0));
        }
        for (int[] size : new int[][] {{11, 11}, {11, 10}, {10, 11}, {1, 11}, {11, 1}, {16, 16}, {1, 16}}) {
            ledger.with(() -> Halls.blank(size[0], size[1]));
            ledger.refused(Ledger.UNSUPPORTED, x -> x.vector(0, 0));
            ledger.with(() -> Halls.eye(size[0], size[1]));
            ledger.refused(Ledger.UNSUPPORTED, x -> x.vector(0, 0));
        }
        sentence("Throws `NoSuchElementException`");
        for (int[] size : new int[][] {{1, 1}, {2, 2}, {3, 2}, {10, 10}, {10, 1}}) {
            ledger.with(() -> Halls.eye(size[0], size[1]));
            ledger.refused(Ledger.NO_ELEMENT, x -> x.vector(0, 0));
            ledger.refused(Ledger.NO_ELEMENT, x -> x.vector(0, size[1] - 1));
            ledger.with(() -> {
                SparseHall hall = Halls.eye(size[0], size[1]);
                hall.set(0, size[1] - 1, size[1] - 1, 0);
                return hall;
            });
            ledger.taken(1L, x -> x.vector(0, size[1] - 1));
        }
        ledger.with(Halls.told("1 2 / 3 6"));
        ledger.taken(-2L, x -> x.vector(0, 0));
        ledger.with(Halls.told("1 2 / 3 7"));
        ledger.refused(Ledger.NO_ELEMENT, x -> x.vector(0, 0));
        sentence("Throws `ArithmeticException`");
        longs(true, Halls::withVector, x -> x.vector(0, 6));
        ledger.with(() -> Halls.withVector(TWO.pow(64)));
        ledger.taken(1L, x -> x.vector(0, 7));
        ledger.refused(Ledger.ARITHMETIC, x -> x.vector(0, 6));
    }

    private static void answer() {
        for (char way : "sln".toCharArray()) {
            numbers((x, m) -> x.answer(m, way, 0, true));
            for (int size : new int[] {1, 2, 10}) {
                ledger.with(() -> Halls.eye(size, size));
                range(size, (x, j) -> x.answer(0, way, j, false));
            }
            for (int[] size : new int[][] {{2, 5}, {5, 2}, {16, 11}, {11, 16}}) {
                ledger.with(() -> Halls.eye(size[0], size[1]));
                refusedBeyond(size[1], (x, j) -> x.answer(0, way, j, true));
            }
        }
        ledger.with(() -> Halls.eye(2, 5));
        range(5, (x, j) -> x.answer(0, 'n', j, true));
        refusedBeyond(5, (x, j) -> x.answer(0, 'x', j, true));
        ledger.with(() -> Halls.eye(5, 2));
        range(2, (x, j) -> x.answer(0, 'l', j, true));
        ways();
        sentence("Throws `IllegalArgumentException`");
        ledger.with(Halls.told("2 1 / 1 3 | 1 1"));
        kinds("sln", (x, way) -> x.answer(0, way, 0, true));
        for (int[] size : new int[][] {{11, 11}, {2, 3}, {3, 2}}) {
            ledger.with(() -> Halls.blank(size[0], size[1]));
            ledger.refused(Ledger.ARGUMENT, x -> x.answer(0, 'x', 0, true));
            ledger.refused(Ledger.ARGUMENT, x -> x.answer(0, 'S', 0, true));
        }
        sentence("Throws `UnsupportedOperationException`");
        atMostTen(true, x -> x.answer(0, 's', 0, true));
        ledger.with(() -> Halls.eye(10, 1));
        ledger.answers(x -> x.answer(0, 'l', 0, true));
        ledger.with(() -> Halls.eye(1, 10));
        ledger.answers(x -> x.answer(0, 'n', 0, true));
        for (char way : "sln".toCharArray()) {
            atMostTen(true, x -> x.answer(0, way, 0, true));
        }
        sentence("Throws `ArithmeticException`");
        for (char way : "sln".toCharArray()) {
            int rows = way == 'l' ? 10 : 8;
            int columns = way == 'n' ? 10 : 8;
            longs(true, number -> Halls.withUpper(number, rows, columns), x -> x.answer(0, way, 7, true));
            longs(false, number -> Halls.withLower(number, rows - 1, columns - 1), x -> x.answer(0, way, 0, false));
            ledger.with(() -> Halls.withUpper(TWO.pow(64), rows, columns));
            ledger.taken(1L, x -> x.answer(0, way, 7, false));
            ledger.taken(1L, x -> x.answer(0, way, 0, true));
            ledger.refused(Ledger.ARITHMETIC, x -> x.answer(0, way, 7, true));
            ledger.with(() -> Halls.withLower(LEAST_LONG, rows - 1, columns - 1));
            ledger.taken(-1L, x -> x.answer(0, way, 0, true));
            ledger.refused(Ledger.ARITHMETIC, x -> x.answer(0, way, 0, false));
        }
    }

    /** Which answers there are: by the rank beside the numbers of rows and columns. */
    private static void ways() {
        String[] all = {"1 / 2 | 5 5", "1 2 | 5", "1 2 / 3 4 | 5 5", "1 2 / 2 4 | 5 5", "0 | 0", "7 | 5",
            "1 2 3 / 2 4 6", "1 2 / 2 4 / 3 6", "1 2 3 / 2 4 7", "1 2 / 2 4 / 3 7", "0 / 0", "0 0"};
        String[] due = {"l", "n", "sln", "", "", "sln", "", "", "n", "l", "", ""};
        for (int at = 0; at < all.length; at++) {
            String matrix = all[at];
            for (char way : "sln".toCharArray()) {
                sentence(due[at].indexOf(way) >= 0 ? "- `way`: 's' that" : "Throws `UnsupportedOperationException`");
                ledger.with(Halls.told(matrix));
                if (due[at].indexOf(way) >= 0) {
                    ledger.answers(x -> x.answer(0, way, 0, true));
                } else {
                    ledger.refused(Ledger.UNSUPPORTED, x -> x.answer(0, way, 0, true));
                    ledger.refused(Ledger.UNSUPPORTED, x -> x.answer(0, way, 0, false));
                }
            }
        }
    }

    private static void answerModulo() {
        numbers((x, m) -> x.answerModulo(m, 0, 7));
        for (int size : new int[] {1, 2, 10, 11, 16}) {
            ledger.with(() -> Halls.eye(size, size));
            range(size, (x, j) -> x.answerModulo(0, j, 7));
            refusedBeyond(size, (x, j) -> x.answerModulo(0, j, 4));
        }
        for (int[] size : new int[][] {{2, 5}, {5, 2}}) {
            ledger.with(() -> Halls.eye(size[0], size[1]));
            refusedBeyond(size[1], (x, j) -> x.answerModulo(0, j, 7));
            ledger.refused(Ledger.UNSUPPORTED, x -> x.answerModulo(0, size[1] - 1, 7));
        }
        sentence("- `prime`: the prime, 2 to 997");
        ledger.with(Halls.told("1 | -1"));
        ledger.taken(1, x -> x.answerModulo(0, 0, 2));
        ledger.taken(996, x -> x.answerModulo(0, 0, 997));
        sentence("Throws `IllegalArgumentException`");
        ledger.with(Halls.told("2 1 / 1 1 | 1 1"));
        primes((x, prime) -> x.answerModulo(0, 0, prime));
        for (String matrix : new String[] {"1 2 3 / 4 5 6", "0", "4"}) {
            ledger.with(Halls.told(matrix));
            ledger.refused(Ledger.ARGUMENT, x -> x.answerModulo(0, 0, 4));
            ledger.refused(Ledger.ARGUMENT, x -> x.answerModulo(0, 0, 1));
            ledger.refused(Ledger.ARGUMENT, x -> x.answerModulo(0, 0, 1009));
        }
        squares(16, x -> x.answerModulo(0, 0, 997));
        for (int prime : new int[] {2, 3, 5, 7, 499, 991, 997}) {
            for (int entry = prime - 1; entry <= prime + 1; entry++) {
                int number = entry;
                ledger.with(() -> Halls.diagonal(1, number, 1));
                if (number == prime) {
                    ledger.refused(Ledger.UNSUPPORTED, x -> x.answerModulo(0, 0, prime));
                } else {
                    ledger.taken(0, x -> x.answerModulo(0, 0, prime));
                }
            }
        }
        ledger.with(() -> Halls.blank(16, 16));
        ledger.refused(Ledger.UNSUPPORTED, x -> x.answerModulo(0, 0, 997));
        ledger.with(Halls.told("2 1 / 1 3 | 1 1"));
        ledger.refused(Ledger.UNSUPPORTED, x -> x.answerModulo(0, 0, 5));
        ledger.taken(0, x -> x.answerModulo(0, 0, 2));
    }

    private static void inverse() {
        numbers((x, m) -> x.inverse(m, 0, 0, true));
        for (int size : new int[] {1, 2, 10}) {
            ledger.with(() -> Halls.eye(size, size));
            range(size, (x, i) -> x.inverse(0, i, 0, true));
            range(size, (x, j) -> x.inverse(0, 0, j, false));
        }
        for (int[] size : new int[][] {{2, 5}, {5, 2}, {11, 11}, {16, 16}}) {
            ledger.with(() -> Halls.eye(size[0], size[1]));
            refusedBeyond(Math.max(size[0], size[1]), (x, i) -> x.inverse(0, i, 0, true));
            refusedBeyond(Math.max(size[0], size[1]), (x, j) -> x.inverse(0, 0, j, true));
            ledger.refused(Ledger.UNSUPPORTED, x -> x.inverse(0, 1, 1, true));
        }
        ledger.with(Halls.told("1 2 / 2 4"));
        refusedBeyond(2, (x, i) -> x.inverse(0, i, 0, true));
        squares(10, x -> x.inverse(0, 0, 0, true));
        atMostTen(true, x -> x.inverse(0, 0, 0, true));
        ledger.with(Halls.told("1 2 / 2 4"));
        ledger.refused(Ledger.UNSUPPORTED, x -> x.inverse(0, 1, 1, true));
        ledger.with(Halls.told("1 2 / 2 5"));
        ledger.taken(5L, x -> x.inverse(0, 0, 0, true));
        ledger.with(Halls.told("0"));
        ledger.refused(Ledger.UNSUPPORTED, x -> x.inverse(0, 0, 0, false));
        ledger.with(() -> Halls.blank(10, 10));
        ledger.refused(Ledger.UNSUPPORTED, x -> x.inverse(0, 0, 0, false));
        sentence("Throws `ArithmeticException`");
        longs(true, number -> Halls.withUpper(number, 8, 8), x -> x.inverse(0, 7, 0, true));
        longs(false, number -> Halls.withLower(number, 7, 7), x -> x.inverse(0, 0, 6, false));
        ledger.with(() -> Halls.withUpper(TWO.pow(64), 8, 8));
        ledger.taken(1L, x -> x.inverse(0, 7, 0, false));
        ledger.with(() -> Halls.withLower(TWO.pow(63), 7, 7));
        ledger.taken(1L, x -> x.inverse(0, 0, 6, true));
        ledger.refused(Ledger.ARITHMETIC, x -> x.inverse(0, 0, 6, false));
    }

    private static void above() {
        numbers((x, m) -> x.above(m, 0));
        sentence("- `number`: the number, -99999 to 99999");
        for (int size : new int[] {1, 10}) {
            for (int entry : new int[] {-999, 0, 999}) {
                ledger.with(() -> Halls.filled(size, size, entry));
                ledger.taken(size, x -> x.above(0, -99999));
                ledger.taken(0, x -> x.above(0, 99999));
            }
        }
        ledger.with(() -> Halls.filled(10, 10, 999));
        ledger.taken(1, x -> x.above(0, 9989));
        ledger.taken(0, x -> x.above(0, 9990));
        ledger.taken(1, x -> x.above(0, 0));
        ledger.taken(10, x -> x.above(0, -1));
        ledger.with(() -> Halls.filled(10, 10, -999));
        ledger.taken(10, x -> x.above(0, -9991));
        ledger.taken(9, x -> x.above(0, -9990));
        ledger.taken(0, x -> x.above(0, 0));
        sentence("Throws `IllegalArgumentException`");
        ledger.with(Halls.told("2 1 / 1 2"));
        limits(-99999, 99999, (x, number) -> x.above(0, number));
        for (int[] size : new int[][] {{2, 3}, {11, 11}}) {
            ledger.with(() -> Halls.eye(size[0], size[1]));
            ledger.refused(Ledger.ARGUMENT, x -> x.above(0, 100000));
            ledger.refused(Ledger.ARGUMENT, x -> x.above(0, -100000));
        }
        ledger.with(Halls.told("1 2 / 3 4"));
        ledger.refused(Ledger.ARGUMENT, x -> x.above(0, 100000));
        ownTransposed(x -> x.above(0, 0));
    }

    /** One entry that has not its like on the other side is enough. */
    private static void ownTransposed(Function<SparseHall, Object> call) {
        squares(10, call);
        atMostTen(true, call);
        for (int size : new int[] {2, 3, 10}) {
            for (int[] place : new int[][] {{0, size - 1}, {size - 1, 0}, {size - 1, size - 2}, {size - 2, size - 1}}) {
                ledger.with(() -> beside(size, place, 1, 0));
                ledger.refused(Ledger.UNSUPPORTED, call);
                ledger.with(() -> beside(size, place, 1, -1));
                ledger.refused(Ledger.UNSUPPORTED, call);
                ledger.with(() -> beside(size, place, 1, 2));
                ledger.refused(Ledger.UNSUPPORTED, call);
                ledger.with(() -> beside(size, place, 1, 1));
                ledger.answers(call);
            }
        }
    }

    /** 900 in the diagonal, an entry at a place, and another one at that on the other side. */
    private static SparseHall beside(int size, int[] place, int entry, int other) {
        SparseHall hall = Halls.blank(size, size);
        for (int i = 0; i < size; i++) {
            hall.set(0, i, i, 900);
        }
        hall.set(0, place[0], place[1], entry);
        hall.set(0, place[1], place[0], other);
        return hall;
    }

    private static void floor() {
        numbers((x, m) -> x.floor(m, 0));
        indices((x, i) -> x.floor(0, i));
        for (int[] size : new int[][] {{2, 5}, {5, 2}, {11, 11}, {16, 16}}) {
            ledger.with(() -> Halls.eye(size[0], size[1]));
            refusedBeyond(size[0], (x, i) -> x.floor(0, i));
            ledger.refused(Ledger.UNSUPPORTED, x -> x.floor(0, size[0] - 1));
        }
        sentence("- `index`: the index, from 0, the greatest one");
        ledger.with(() -> Halls.diagonal(-999, 5, 999, 0, 5));
        ledger.taken(999, x -> x.floor(0, 0));
        ledger.taken(5, x -> x.floor(0, 1));
        ledger.taken(5, x -> x.floor(0, 2));
        ledger.taken(0, x -> x.floor(0, 3));
        ledger.taken(-999, x -> x.floor(0, 4));
        // eigenvalues n + 1 and n - 1, and then just beside whole numbers: the roots of 2, added and taken off
        ledger.with(Halls.told("7 1 / 1 7"));
        ledger.taken(8, x -> x.floor(0, 0));
        ledger.taken(6, x -> x.floor(0, 1));
        ledger.with(Halls.told("1 1 / 1 -1"));
        ledger.taken(1, x -> x.floor(0, 0));
        ledger.taken(-2, x -> x.floor(0, 1));
        ledger.with(Halls.told("0 1 / 1 999"));
        ledger.taken(999, x -> x.floor(0, 0));
        ledger.taken(-1, x -> x.floor(0, 1));
        ledger.with(Halls.told("0 1 / 1 -999"));
        ledger.taken(0, x -> x.floor(0, 0));
        ledger.taken(-1000, x -> x.floor(0, 1));
        ledger.with(() -> Halls.filled(10, 10, 999));
        ledger.taken(9990, x -> x.floor(0, 0));
        ledger.taken(0, x -> x.floor(0, 1));
        ledger.with(() -> Halls.filled(10, 10, -999));
        ledger.taken(0, x -> x.floor(0, 0));
        ledger.taken(-9990, x -> x.floor(0, 9));
        sentence("Throws `UnsupportedOperationException`");
        ownTransposed(x -> x.floor(0, 0));
    }

    private static void steps() {
        numbers((x, m) -> x.steps(m));
        sentence("Throws `UnsupportedOperationException`");
        ownTransposed(x -> x.steps(0));
        for (int[] entries : new int[][] {{1}, {999, 1}, {1, 1, 1, 1, 1, 1, 1, 1, 1, 1}}) {
            ledger.with(() -> Halls.diagonal(entries));
            ledger.answers(x -> x.steps(0));
            for (int wrong : new int[] {0, -1, -999}) {
                for (int place : new int[] {0, entries.length - 1}) {
                    ledger.with(() -> {
                        SparseHall hall = Halls.diagonal(entries);
                        hall.set(0, place, place, wrong);
                        return hall;
                    });
                    ledger.refused(Ledger.UNSUPPORTED, x -> x.steps(0));
                }
            }
        }
        // eigenvalues 1 - 1 and 1 + 1, and then a little more than 0
        ledger.with(Halls.told("1 1 / 1 1 | 1 0"));
        ledger.refused(Ledger.UNSUPPORTED, x -> x.steps(0));
        ledger.with(Halls.told("1 1 / 1 2 | 1 0"));
        ledger.taken(2, x -> x.steps(0));
        ledger.with(Halls.told("998 999 / 999 999 | 1 0"));
        ledger.refused(Ledger.UNSUPPORTED, x -> x.steps(0));
        ledger.with(Halls.told("998 997 / 997 997 | 1 0"));
        ledger.taken(2, x -> x.steps(0));
        sentence("Returns after how many conjugate steps nothing is left.");
        ledger.with(Halls.told("2 1 / 1 2"));
        ledger.taken(0, x -> x.steps(0));
    }

    // ---- patterns and paths

    private static void kept() {
        numbers((x, m) -> x.kept(m, 0));
        ledger.with(Halls.told("1"));
        ledger.refused(Ledger.INDEX, x -> x.kept(1, 21));
        sentence("- `level`: the level, 0 to 20");
        // the way back from the last index to the first one fills one after another, each a level more
        ledger.with(() -> {
            SparseHall hall = Halls.way(16);
            hall.set(0, 15, 0, 1);
            return hall;
        });
        for (int level = 0; level <= 20; level++) {
            int most = level;
            ledger.taken(47 + Math.min(level, 13), x -> x.kept(0, most));
        }
        sentence("Throws `IllegalArgumentException`");
        ledger.with(() -> Halls.way(5));
        limits(0, 20, (x, level) -> x.kept(0, level));
        ledger.with(() -> Halls.eye(2, 3));
        ledger.refused(Ledger.ARGUMENT, x -> x.kept(0, 21));
        ledger.refused(Ledger.ARGUMENT, x -> x.kept(0, -1));
        squares(16, x -> x.kept(0, 20));
    }

    private static void aggregate() {
        sentence("Returns the number of the aggregate, from 0.");
        ledger.with(() -> Halls.eye(16, 16));
        ledger.taken(0, x -> x.aggregate(0, 0));
        ledger.taken(15, x -> x.aggregate(0, 15));
        ledger.with(() -> Halls.filled(16, 16, 1));
        ledger.taken(0, x -> x.aggregate(0, 0));
        ledger.taken(0, x -> x.aggregate(0, 15));
        indexed(SparseHall::aggregate);
    }

    private static void partsOf() {
        sentence("Returns how many parts there are");
        ledger.with(() -> Halls.blank(16, 16));
        ledger.taken(16, x -> x.partsOf(0));
        ledger.with(() -> Halls.way(16));
        ledger.taken(1, x -> x.partsOf(0));
        ledger.taken(2, x -> x.set(0, 7, 8, 0) - 1 + x.set(0, 8, 7, 0) - 1 + x.partsOf(0));
        ledger.taken(1, x -> x.set(0, 7, 8, 0) - 1 + x.partsOf(0));
        ledger.with(() -> Halls.joined(16, 0, 15));
        ledger.taken(15, x -> x.partsOf(0));
        ledger.with(Halls.told("3"));
        ledger.taken(1, x -> x.partsOf(0));
        square(SparseHall::partsOf);
    }

    private static void best() {
        String told = "2 1 / 1 2";
        for (char kind : "+ma".toCharArray()) {
            numbers(told, 6, (x, m) -> x.best(m, 0, 0, kind));
            for (int size : new int[] {1, 2, 16}) {
                ledger.with(() -> Halls.filled(size, size, 3));
                range(size, (x, i) -> x.best(0, i, 0, kind));
                range(size, (x, i) -> x.best(0, 0, i, kind));
                refusedBeyond(size, (x, i) -> x.best(0, i, 0, 'x'));
                refusedBeyond(size, (x, i) -> x.best(0, size - 1, i, 'x'));
            }
            for (int[] size : new int[][] {{2, 5}, {5, 2}}) {
                ledger.with(() -> Halls.eye(size[0], size[1]));
                refusedBeyond(size[0], (x, i) -> x.best(0, i, 0, kind));
                refusedBeyond(size[0], (x, i) -> x.best(0, 0, i, kind));
                ledger.refused(Ledger.UNSUPPORTED, x -> x.best(0, size[0] - 1, size[0] - 1, kind));
            }
            ledger.with(() -> Halls.diagonal(0, -1, 0));
            refusedBeyond(3, (x, i) -> x.best(0, i, 0, kind));
            refusedBeyond(3, (x, i) -> x.best(0, 0, i, kind));
        }
        sentence("Returns the best path");
        // back to itself: a ring of 16, a loop at the index, and a way there and back
        ledger.with(() -> {
            SparseHall hall = Halls.blank(16, 16);
            for (int i = 0; i < 16; i++) {
                hall.set(0, i, (i + 1) % 16, 999 - i);
            }
            return hall;
        });
        ledger.taken(16, x -> x.best(0, 0, 0, 'a'));
        ledger.taken(16, x -> x.best(0, 15, 15, 'a'));
        ledger.taken(15, x -> x.best(0, 1, 0, 'a'));
        ledger.taken(984, x -> x.best(0, 7, 7, 'm'));
        ledger.taken(16 * 999 - 120, x -> x.best(0, 7, 7, '+'));
        ledger.with(Halls.told("5 1 / 1 0"));
        ledger.taken(1, x -> x.best(0, 0, 0, 'a'));
        ledger.taken(2, x -> x.best(0, 0, 0, '+'));
        ledger.taken(5, x -> x.best(0, 0, 0, 'm'));
        ledger.taken(2, x -> x.best(0, 1, 1, 'a'));
        ledger.taken(2, x -> x.best(0, 1, 1, '+'));
        ledger.taken(1, x -> x.best(0, 1, 1, 'm'));
        sentence("- `kind`: '+' the least sum");
        ledger.with(Halls.told("0 9 2 / 0 0 0 / 0 6 0"));
        ledger.taken(8, x -> x.best(0, 0, 1, '+'));
        ledger.taken(9, x -> x.best(0, 0, 1, 'm'));
        ledger.taken(1, x -> x.best(0, 0, 1, 'a'));
        sentence("Throws `IllegalArgumentException`");
        ledger.with(Halls.told("2 1 / 1 3"));
        kinds("+ma", (x, kind) -> x.best(0, 0, 1, kind));
        for (String matrix : new String[] {"1 2 3 / 4 5 6", "-1", "0"}) {
            ledger.with(Halls.told(matrix));
            ledger.refused(Ledger.ARGUMENT, x -> x.best(0, 0, 0, 'x'));
            ledger.refused(Ledger.ARGUMENT, x -> x.best(0, 0, 0, 'A'));
        }
        for (char kind : "+ma".toCharArray()) {
            squares(16, x -> x.best(0, 0, 0, kind));
        }
        // an entry below 0 anywhere, also where no path leads
        for (int[] place : new int[][] {{0, 0}, {0, 15}, {15, 0}, {15, 15}, {7, 8}}) {
            for (int entry : new int[] {-1, -999, 0, 1}) {
                ledger.with(() -> {
                    SparseHall hall = Halls.way(16);
                    hall.set(0, place[0], place[1], entry);
                    return hall;
                });
                if (entry < 0) {
                    ledger.refused(Ledger.UNSUPPORTED, x -> x.best(0, 1, 2, '+'));
                } else {
                    ledger.taken(1, x -> x.best(0, 1, 2, '+'));
                }
                ledger.taken(1, x -> x.best(0, 1, 2, 'a'));
                ledger.taken(1, x -> x.best(0, 1, 2, 'm'));
            }
        }
        ledger.with(() -> Halls.diagonal(0, -1));
        ledger.refused(Ledger.UNSUPPORTED, x -> x.best(0, 0, 0, '+'));
        ledger.taken(-1, x -> x.best(0, 1, 1, 'm'));
        noPath();
    }

    private static void noPath() {
        sentence("Throws `NoSuchElementException`");
        for (char kind : "+ma".toCharArray()) {
            ledger.with(() -> Halls.blank(1, 1));
            ledger.refused(Ledger.NO_ELEMENT, x -> x.best(0, 0, 0, kind));
            ledger.with(Halls.told("5"));
            ledger.taken(kind == 'a' ? 1 : 5, x -> x.best(0, 0, 0, kind));
            ledger.with(Halls.told("0 3 / 0 0"));
            ledger.taken(kind == 'a' ? 1 : 3, x -> x.best(0, 0, 1, kind));
            ledger.refused(Ledger.NO_ELEMENT, x -> x.best(0, 1, 0, kind));
            ledger.refused(Ledger.NO_ELEMENT, x -> x.best(0, 0, 0, kind));
            ledger.refused(Ledger.NO_ELEMENT, x -> x.best(0, 1, 1, kind));
            ledger.with(() -> {
                SparseHall hall = Halls.blank(16, 16);
                for (int i = 0; i < 15; i++) {
                    hall.set(0, i, i + 1, 999);
                }
                return hall;
            });
            ledger.taken(kind == 'a' ? 15 : kind == 'm' ? 999 : 15 * 999, x -> x.best(0, 0, 15, kind));
            ledger.refused(Ledger.NO_ELEMENT, x -> x.best(0, 0, 0, kind));
            ledger.refused(Ledger.NO_ELEMENT, x -> x.best(0, 15, 0, kind));
        }
        ledger.with(Halls.told("-999"));
        ledger.taken(-999, x -> x.best(0, 0, 0, 'm'));
    }

    private static void walks() {
        numbers((x, m) -> x.walks(m, 0, 0, 1));
        for (int size : new int[] {1, 2, 16}) {
            ledger.with(() -> Halls.eye(size, size));
            range(size, (x, i) -> x.walks(0, i, 0, 12));
            range(size, (x, i) -> x.walks(0, 0, i, 12));
            refusedBeyond(size, (x, i) -> x.walks(0, i, 0, 0));
            refusedBeyond(size, (x, i) -> x.walks(0, size - 1, i, 13));
        }
        for (int[] size : new int[][] {{2, 5}, {5, 2}}) {
            ledger.with(() -> Halls.eye(size[0], size[1]));
            refusedBeyond(size[0], (x, i) -> x.walks(0, i, 0, 1));
            refusedBeyond(size[0], (x, i) -> x.walks(0, 0, i, 1));
            ledger.refused(Ledger.UNSUPPORTED, x -> x.walks(0, size[0] - 1, size[0] - 1, 1));
        }
        sentence("Returns how many walks of so many arcs");
        ledger.with(Halls.told("1 0 / 0 0"));
        ledger.taken(1L, x -> x.walks(0, 0, 0, 12));
        ledger.taken(0L, x -> x.walks(0, 1, 1, 1));
        ledger.with(Halls.told("0 -1 / 999 0"));
        ledger.taken(1L, x -> x.walks(0, 0, 0, 2));
        ledger.taken(0L, x -> x.walks(0, 0, 0, 1));
        ledger.taken(0L, x -> x.walks(0, 0, 0, 3));
        ledger.taken(1L, x -> x.walks(0, 1, 0, 11));
        sentence("- `arcs`: how many arcs, 1 to 12");
        ledger.with(() -> Halls.filled(16, 16, -7));
        for (int arcs = 1; arcs <= 12; arcs++) {
            int number = arcs;
            ledger.taken(1L << 4 * (arcs - 1), x -> x.walks(0, 0, 15, number));
        }
        sentence("Throws `IllegalArgumentException`");
        ledger.with(() -> Halls.way(4));
        limits(1, 12, (x, arcs) -> x.walks(0, 0, 1, arcs));
        ledger.with(() -> Halls.eye(2, 3));
        ledger.refused(Ledger.ARGUMENT, x -> x.walks(0, 0, 0, 0));
        ledger.refused(Ledger.ARGUMENT, x -> x.walks(0, 0, 0, 13));
        squares(16, x -> x.walks(0, 0, 0, 12));
    }

    // ---- figures

    private static void share() {
        simple(SparseHall::share);
        sentence("Returns the share of the entries that are not 0.");
        for (int rows = 1; rows <= 16; rows++) {
            for (int columns = 1; columns <= 16; columns++) {
                int height = rows;
                int width = columns;
                ledger.with(() -> Halls.blank(height, width));
                ledger.taken(0f, x -> x.share(0));
                ledger.taken(1f / (float) (rows * columns), x -> x.set(0, 0, 0, -1) + x.share(0));
                ledger.with(() -> Halls.eye(height, width));
                ledger.taken((float) Math.min(rows, columns) / (float) (rows * columns), x -> x.share(0));
            }
        }
        ledger.with(() -> Halls.filled(16, 16, 9));
        ledger.taken(1f, x -> x.share(0));
        ledger.taken(255f / 256f, x -> x.set(0, 15, 15, 0) - 9 + x.share(0));
    }

    private static void meanCount() {
        sentence("Returns the sum of the counts of all indices divided by their number");
        for (int size = 1; size <= 16; size++) {
            int side = size;
            ledger.with(() -> Halls.blank(side, side));
            ledger.taken(1.0, x -> x.meanCount(0));
            ledger.with(() -> Halls.filled(side, side, 1));
            ledger.taken((double) (side * (side + 1) / 2) / (double) side, x -> x.meanCount(0));
            ledger.with(() -> Halls.way(side));
            ledger.taken((double) (2 * side - 1) / (double) side, x -> x.meanCount(0));
        }
        square(SparseHall::meanCount);
    }

    private static void isSound() {
        sentence("Returns whether, for all matrices");
        ledger.taken(true, SparseHall::isSound);
        int[] sides = {1, 2, 9, 10, 11, 16};
        for (int rows : sides) {
            for (int columns : sides) {
                ledger.with(() -> Halls.blank(rows, columns));
                ledger.taken(true, SparseHall::isSound);
                ledger.with(() -> Halls.eye(rows, columns));
                ledger.taken(true, SparseHall::isSound);
            }
        }
        for (int entry : new int[] {2, 3, 997, 998, -997, 999, -999}) {
            ledger.with(() -> Halls.diagonal(1, entry, 1, 999, 999, 999, 999, 999, 999, entry));
            ledger.taken(true, SparseHall::isSound);
        }
        ledger.with(Halls::greatest);
        ledger.taken(true, SparseHall::isSound);
        ledger.with(() -> Halls.filled(10, 10, -999));
        ledger.taken(true, SparseHall::isSound);
        ledger.with(() -> Halls.withUpper(TWO.pow(65), 10, 8));
        ledger.taken(true, SparseHall::isSound);
        ledger.with(() -> Halls.withLower(TWO.pow(65), 7, 10));
        ledger.taken(true, SparseHall::isSound);
        ledger.with(Halls.told("1 2 3 / 4 5 6 | 7 -8", "1 2 / 3 4 / 5 6 | 999 -999 1", "2 4 / 1 2", "0", "997 | 1", "1"));
        ledger.taken(true, SparseHall::isSound);
    }
}
