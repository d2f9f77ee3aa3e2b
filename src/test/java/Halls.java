import java.math.BigInteger;
import java.util.function.Supplier;

/** Makes halls for tests. */
final class Halls {
    private static final BigInteger BASE = BigInteger.valueOf(999);

    private Halls() {
    }

    /** A hall with matrices told as "1 2 / 3 4 | 5 6", rows by rows, and then the right side. */
    static SparseHall of(String... told) {
        SparseHall hall = new SparseHall();
        for (String one : told) {
            add(hall, one);
        }
        return hall;
    }

    static int add(SparseHall hall, String told) {
        String[] sides = told.split(" \\| ");
        String[] rows = sides[0].split(" / ");
        int number = hall.matrix(rows.length, rows[0].split(" ").length);
        for (int i = 0; i < rows.length; i++) {
            String[] row = rows[i].split(" ");
            for (int j = 0; j < row.length; j++) {
                if (!row[j].equals("0")) {
                    hall.set(number, i, j, Integer.parseInt(row[j]));
                }
            }
        }
        if (sides.length > 1) {
            String[] right = sides[1].split(" ");
            for (int i = 0; i < right.length; i++) {
                hall.right(number, i, Integer.parseInt(right[i]));
            }
        }
        return number;
    }

    static Supplier<SparseHall> told(String... told) {
        return () -> of(told);
    }

    static SparseHall blank(int rows, int columns) {
        SparseHall hall = new SparseHall();
        hall.matrix(rows, columns);
        return hall;
    }

    static SparseHall filled(int rows, int columns, int entry) {
        SparseHall hall = blank(rows, columns);
        for (int i = 0; i < rows; i++) {
            for (int j = 0; j < columns; j++) {
                hall.set(0, i, j, entry);
            }
        }
        return hall;
    }

    /** Ones where a row and a column have the same index, also if it is not square. */
    static SparseHall eye(int rows, int columns) {
        SparseHall hall = blank(rows, columns);
        for (int i = 0; i < rows && i < columns; i++) {
            hall.set(0, i, i, 1);
        }
        return hall;
    }

    static SparseHall diagonal(int... entries) {
        SparseHall hall = blank(entries.length, entries.length);
        for (int i = 0; i < entries.length; i++) {
            hall.set(0, i, i, entries[i]);
        }
        return hall;
    }

    /** Zeros, but for ones on both sides of each pair. */
    static SparseHall joined(int size, int... pairs) {
        SparseHall hall = blank(size, size);
        for (int i = 0; i < pairs.length; i += 2) {
            hall.set(0, pairs[i], pairs[i + 1], 1);
            hall.set(0, pairs[i + 1], pairs[i], 1);
        }
        return hall;
    }

    /** A way from each index to the next one. */
    static SparseHall way(int size) {
        SparseHall hall = blank(size, size);
        for (int i = 0; i + 1 < size; i++) {
            hall.set(0, i, i + 1, 1);
            hall.set(0, i + 1, i, 1);
        }
        return hall;
    }

    static String orderOf(SparseHall hall, int matrix, int size) {
        StringBuilder order = new StringBuilder();
        for (int place = 0; place < size; place++) {
            order.append(place == 0 ? "" : " ").append(hall.ordered(matrix, place));
        }
        return order.toString();
    }

    static String cellsOf(SparseHall hall, int matrix, int rows, int columns) {
        StringBuilder cells = new StringBuilder();
        for (int i = 0; i < rows; i++) {
            for (int j = 0; j < columns; j++) {
                cells.append(j > 0 ? " " : i > 0 ? " / " : "").append(hall.entry(matrix, i, j));
            }
        }
        return cells.toString();
    }

    // ---- great numbers out of small entries, by their digits to the base of 999

    private static int[] digits(BigInteger number, int count) {
        int[] digits = new int[count];
        BigInteger left = number.abs();
        for (int at = count - 1; at >= 0; at--) {
            BigInteger[] parts = left.divideAndRemainder(BASE);
            digits[at] = parts[1].intValue() * number.signum();
            left = parts[0];
        }
        if (left.signum() != 0) {
            throw new IllegalArgumentException(number + " has more digits");
        }
        return digits;
    }

    /** A square matrix with a determinant of up to 999^size. */
    static SparseHall withDeterminant(BigInteger number, int size) {
        int[] digits = digits(number, size);
        SparseHall hall = blank(size, size);
        for (int k = 0; k < size; k++) {
            hall.set(0, 0, k, digits[k]);
            if (k > 0) {
                hall.set(0, k, k, 999);
                hall.set(0, k, k - 1, -1);
            }
        }
        return hall;
    }

    /** Ten rows of 999 and -999, of which none have a greater determinant: two rings of five, turned. */
    static SparseHall greatest() {
        int[] ring = {999, 999, 999, 999, -999};
        SparseHall hall = blank(10, 10);
        for (int i = 0; i < 5; i++) {
            for (int j = 0; j < 5; j++) {
                hall.set(0, i, j, ring[(j - i + 5) % 5]);
                hall.set(0, i, j + 5, ring[(j - i + 5) % 5]);
                hall.set(0, i + 5, j, -ring[(i - j + 5) % 5]);
                hall.set(0, i + 5, j + 5, ring[(i - j + 5) % 5]);
            }
        }
        return hall;
    }

    /**
     * At least eight rows and columns: column 0 is 1, column 7 is the number, those between lead from
     * one to the other. More rows ask nothing, more columns are nothing. It is also that of the inverse
     * in row 7 and column 0.
     */
    static SparseHall withUpper(BigInteger number, int rows, int columns) {
        int[] digits = digits(number, 7);
        SparseHall hall = blank(rows, columns);
        hall.set(0, 0, 0, 1);
        hall.right(0, 0, 1);
        for (int k = 0; k < 7; k++) {
            hall.set(0, k + 1, 0, -digits[k]);
            hall.set(0, k + 1, k + 1, 1);
            if (k > 0) {
                hall.set(0, k + 1, k, -999);
            }
        }
        return hall;
    }

    /**
     * At least seven rows and columns: column 0 is 1 divided by the number, as is that of the inverse
     * in row 0 and column 6.
     */
    static SparseHall withLower(BigInteger number, int rows, int columns) {
        int[] digits = digits(number, 7);
        SparseHall hall = blank(rows, columns);
        for (int k = 0; k < 7; k++) {
            hall.set(0, k, 0, k < 6 ? -digits[k] : digits[k]);
            if (k < 6) {
                hall.set(0, k, k + 1, 1);
            }
            if (k > 0) {
                hall.set(0, k, k, k < 6 ? -999 : 999);
            }
        }
        hall.right(0, 6, 1);
        return hall;
    }

    /** Seven rows and eight columns, whose vector has the number in column 6 and 1 in column 7. */
    static SparseHall withVector(BigInteger number) {
        int[] digits = digits(number, 7);
        SparseHall hall = blank(7, 8);
        for (int k = 0; k < 7; k++) {
            hall.set(0, k, k, 1);
            hall.set(0, k, 7, -digits[k]);
            if (k > 0) {
                hall.set(0, k, k - 1, -999);
            }
        }
        return hall;
    }
}
