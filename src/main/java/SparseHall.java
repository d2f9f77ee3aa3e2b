import java.util.NoSuchElementException;

/**
 * A hall of great systems of equations that are mostly nothing: up to six matrices with whole
 * entries, and what can be told of their pattern and, exactly, of their numbers.
 *
 * <p>All rows for reckoning are made once, with the hall, and used again by every call; only a new
 * matrix and an exception make new objects.
 */
public final class SparseHall {
    private static final int MOST_MATRICES = 6;
    private static final int MOST_SIDE = 16;
    private static final int MOST_EXACT = 10;
    private static final int MOST_ENTRY = 999;
    private static final int MOST_SHIFT = 99999;
    private static final int MOST_PROCESSORS = 4;
    private static final int MOST_LEVEL = 20;
    private static final int MOST_ARCS = 12;

    private final Sheet[] sheets = new Sheet[MOST_MATRICES];
    private int held = 0;
    private final Matching matching = new Matching();
    private final Graph graph = new Graph();
    private final Orders orders = new Orders();
    private final Tree tree = new Tree();
    private final Table table = new Table();
    private final Equations equations = new Equations();
    private final Spectrum spectrum = new Spectrum();
    private final Patterns patterns = new Patterns();

    /** Creates a hall without matrices. */
    public SparseHall() {
    }

    // ---- matrices

    /** Adds a matrix of zeros and returns its number. */
    public int matrix(int rows, int columns) throws IllegalArgumentException, IllegalStateException {
        if (!isWithin(rows, 1, MOST_SIDE) || !isWithin(columns, 1, MOST_SIDE)) {
            throw new IllegalArgumentException();
        }
        if (held >= MOST_MATRICES) {
            throw new IllegalStateException();
        }
        return keep(new Sheet(rows, columns));
    }

    /** Sets an entry and returns the one before. */
    public int set(int matrix, int row, int column, int entry)
            throws IndexOutOfBoundsException, IllegalArgumentException {
        Sheet sheet = sheetAt(matrix);
        if (!sheet.hasRow(row) || !sheet.hasColumn(column)) {
            throw new IndexOutOfBoundsException();
        }
        if (!isWithin(entry, -MOST_ENTRY, MOST_ENTRY)) {
            throw new IllegalArgumentException();
        }
        int before = sheet.cells[row][column];
        sheet.cells[row][column] = entry;
        return before;
    }

    /** Returns an entry. */
    public int entry(int matrix, int row, int column) throws IndexOutOfBoundsException {
        Sheet sheet = sheetAt(matrix);
        if (!sheet.hasRow(row) || !sheet.hasColumn(column)) {
            throw new IndexOutOfBoundsException();
        }
        return sheet.cells[row][column];
    }

    /** Sets a number of the right side and returns the one before. */
    public int right(int matrix, int row, int number)
            throws IndexOutOfBoundsException, IllegalArgumentException {
        Sheet sheet = sheetAt(matrix);
        if (!sheet.hasRow(row)) {
            throw new IndexOutOfBoundsException();
        }
        if (!isWithin(number, -MOST_ENTRY, MOST_ENTRY)) {
            throw new IllegalArgumentException();
        }
        int before = sheet.rights[row];
        sheet.rights[row] = number;
        return before;
    }

    /** Exchanges two rows, with their right sides, or two columns; returns how many entries they have. */
    public int exchange(int matrix, boolean areRows, int one, int other)
            throws IndexOutOfBoundsException {
        Sheet sheet = sheetAt(matrix);
        int end = areRows ? sheet.rows : sheet.columns;
        if (!isWithin(one, 0, end - 1) || !isWithin(other, 0, end - 1)) {
            throw new IndexOutOfBoundsException();
        }
        return areRows ? sheet.exchangeRows(one, other) : sheet.exchangeColumns(one, other);
    }

    /** Returns how many entries are not 0. */
    public int entries(int matrix) throws IndexOutOfBoundsException {
        return sheetAt(matrix).countEntries();
    }

    /** Adds the transposed matrix and returns its number. */
    public int transpose(int matrix) throws IndexOutOfBoundsException, IllegalStateException {
        Sheet sheet = sheetAt(matrix);
        if (held >= MOST_MATRICES) {
            throw new IllegalStateException();
        }
        return keep(turned(sheet));
    }

    /** Adds the product of two matrices and returns its number. */
    public int multiply(int matrix, int other)
            throws IndexOutOfBoundsException, UnsupportedOperationException, IllegalStateException {
        Sheet first = sheetAt(matrix);
        Sheet second = sheetAt(other);
        if (first.columns != second.rows || !hasSmallProduct(first, second)) {
            throw new UnsupportedOperationException();
        }
        if (held >= MOST_MATRICES) {
            throw new IllegalStateException();
        }
        return keep(product(first, second));
    }

    /** Returns how many entries of the product could be other than 0 by where theirs are. */
    public int foretold(int matrix, int other)
            throws IndexOutOfBoundsException, UnsupportedOperationException {
        Sheet first = sheetAt(matrix);
        Sheet second = sheetAt(other);
        if (first.columns != second.rows) {
            throw new UnsupportedOperationException();
        }
        return countForetold(first, second);
    }

    /** Returns whether a matrix is its own transposed one. */
    public boolean isSymmetric(int matrix) throws IndexOutOfBoundsException {
        return sheetAt(matrix).isOwnTransposed();
    }

    // ---- matchings

    /** Returns how many entries the greatest matching has. */
    public int matched(int matrix) throws IndexOutOfBoundsException {
        return matching.match(sheetAt(matrix), 1);
    }

    /** Returns how great the least amount of an entry of a greatest matching can be. */
    public int least(int matrix) throws IndexOutOfBoundsException, NoSuchElementException {
        Sheet sheet = sheetAt(matrix);
        if (sheet.countEntries() == 0) {
            throw new NoSuchElementException();
        }
        return matching.greatestLeast(sheet);
    }

    /** Returns how many blocks a square matrix has. */
    public int blocks(int matrix) throws IndexOutOfBoundsException, UnsupportedOperationException {
        Sheet sheet = sheetAt(matrix);
        if (!sheet.isSquare() || matching.match(sheet, 1) < sheet.rows) {
            throw new UnsupportedOperationException();
        }
        return matching.countBlocks();
    }

    /** Returns how many rows the block of a row has. */
    public int blockOf(int matrix, int row)
            throws IndexOutOfBoundsException, UnsupportedOperationException {
        Sheet sheet = sheetAt(matrix);
        if (!sheet.hasRow(row)) {
            throw new IndexOutOfBoundsException();
        }
        if (!sheet.isSquare() || matching.match(sheet, 1) < sheet.rows) {
            throw new UnsupportedOperationException();
        }
        return matching.sizeOfBlock(row);
    }

    // ---- orders and trees

    /** Orders a square matrix and returns the first index. */
    public int order(int matrix, char kind)
            throws IndexOutOfBoundsException, IllegalArgumentException, UnsupportedOperationException {
        Sheet sheet = sheetAt(matrix);
        if (kind != 'n' && kind != 'd' && kind != 'w' && kind != 's') {
            throw new IllegalArgumentException();
        }
        if (!sheet.isSquare()) {
            throw new UnsupportedOperationException();
        }
        graph.join(sheet);
        orders.put(graph, kind, sheet.order);
        return sheet.order[0];
    }

    /** Returns the index at a place of the order. */
    public int ordered(int matrix, int place)
            throws IndexOutOfBoundsException, UnsupportedOperationException {
        return squareWith(matrix, place).order[place];
    }

    /** Returns the most places by which two joined indices are apart in the order. */
    public int width(int matrix) throws IndexOutOfBoundsException, UnsupportedOperationException {
        Sheet sheet = squareAt(matrix);
        graph.join(sheet);
        return orders.farthest(graph, sheet.order);
    }

    /** Returns the parent of an index, -1 for none. */
    public int parent(int matrix, int index)
            throws IndexOutOfBoundsException, UnsupportedOperationException {
        plant(squareWith(matrix, index));
        return tree.parents[index];
    }

    /** Returns the count of an index. */
    public int countOf(int matrix, int index)
            throws IndexOutOfBoundsException, UnsupportedOperationException {
        plant(squareWith(matrix, index));
        return tree.counts[index];
    }

    /** Returns how many indices are changed if an entry of an index changes. */
    public int path(int matrix, int index)
            throws IndexOutOfBoundsException, UnsupportedOperationException {
        plant(squareWith(matrix, index));
        return tree.countUpward(index);
    }

    /** Returns the fill. */
    public int fill(int matrix) throws IndexOutOfBoundsException, UnsupportedOperationException {
        plant(squareAt(matrix));
        return tree.newPairs;
    }

    /** Returns how many supernodes there are. */
    public int supernodes(int matrix) throws IndexOutOfBoundsException, UnsupportedOperationException {
        plant(squareAt(matrix));
        return tree.countSupernodes();
    }

    /** Returns the memory. */
    public int memory(int matrix) throws IndexOutOfBoundsException, UnsupportedOperationException {
        plant(squareAt(matrix));
        return tree.mostCells();
    }

    /** Returns when all work is done. */
    public int work(int matrix, int processors)
            throws IndexOutOfBoundsException, IllegalArgumentException, UnsupportedOperationException {
        Sheet sheet = sheetAt(matrix);
        if (!isWithin(processors, 1, MOST_PROCESSORS)) {
            throw new IllegalArgumentException();
        }
        if (!sheet.isSquare()) {
            throw new UnsupportedOperationException();
        }
        plant(sheet);
        return tree.ticksUntilDone(processors);
    }

    // ---- exact numbers

    /** Returns the determinant. */
    public long determinant(int matrix)
            throws IndexOutOfBoundsException, UnsupportedOperationException, ArithmeticException {
        Sheet sheet = sheetAt(matrix);
        if (!sheet.isSquare() || !sheet.isSmallEnough()) {
            throw new UnsupportedOperationException();
        }
        equations.findDeterminant(sheet);
        return longOf(equations.told);
    }

    /** Returns how many decimal digits the determinant has. */
    public int digits(int matrix) throws IndexOutOfBoundsException, UnsupportedOperationException {
        Sheet sheet = sheetAt(matrix);
        if (!sheet.isSquare() || !sheet.isSmallEnough()) {
            throw new UnsupportedOperationException();
        }
        equations.findDeterminant(sheet);
        return equations.told.countDigits();
    }

    /** Returns the determinant modulo a prime. */
    public int modulo(int matrix, int prime)
            throws IndexOutOfBoundsException, IllegalArgumentException, UnsupportedOperationException {
        Sheet sheet = sheetAt(matrix);
        if (!Table.isSmallPrime(prime)) {
            throw new IllegalArgumentException();
        }
        if (!sheet.isSquare()) {
            throw new UnsupportedOperationException();
        }
        table.load(sheet, prime);
        return (int) table.clearSquare(false);
    }

    /** Returns the rank. */
    public int rank(int matrix) throws IndexOutOfBoundsException, UnsupportedOperationException {
        Sheet sheet = sheetAt(matrix);
        if (!sheet.isSmallEnough()) {
            throw new UnsupportedOperationException();
        }
        return equations.findRank(sheet);
    }

    /** Returns a number of the vector that tells why the columns are not independent. */
    public long vector(int matrix, int column)
            throws IndexOutOfBoundsException, UnsupportedOperationException, NoSuchElementException,
            ArithmeticException {
        Sheet sheet = sheetAt(matrix);
        if (!sheet.hasColumn(column)) {
            throw new IndexOutOfBoundsException();
        }
        if (!sheet.isSmallEnough()) {
            throw new UnsupportedOperationException();
        }
        if (!equations.solveDependence(sheet)) {
            throw new NoSuchElementException();
        }
        equations.tellOfVector(column);
        return longOf(equations.told);
    }

    /** Returns the numerator or the denominator of a number of an answer. */
    public long answer(int matrix, char way, int column, boolean isUpper)
            throws IndexOutOfBoundsException, IllegalArgumentException, UnsupportedOperationException,
            ArithmeticException {
        Sheet sheet = sheetAt(matrix);
        if (!sheet.hasColumn(column)) {
            throw new IndexOutOfBoundsException();
        }
        if (way != 's' && way != 'l' && way != 'n') {
            throw new IllegalArgumentException();
        }
        if (!sheet.isSmallEnough() || !equations.solve(sheet, way)) {
            throw new UnsupportedOperationException();
        }
        equations.tellFraction(column, isUpper);
        return longOf(equations.told);
    }

    /** Returns a number of the answer of the equations modulo a prime. */
    public int answerModulo(int matrix, int column, int prime)
            throws IndexOutOfBoundsException, IllegalArgumentException, UnsupportedOperationException {
        Sheet sheet = sheetAt(matrix);
        if (!sheet.hasColumn(column)) {
            throw new IndexOutOfBoundsException();
        }
        if (!Table.isSmallPrime(prime)) {
            throw new IllegalArgumentException();
        }
        if (!sheet.isSquare() || !isAnsweredModulo(sheet, prime)) {
            throw new UnsupportedOperationException();
        }
        return (int) table.solved(column);
    }

    /** Returns the numerator or the denominator of a number of the inverse. */
    public long inverse(int matrix, int row, int column, boolean isUpper)
            throws IndexOutOfBoundsException, UnsupportedOperationException, ArithmeticException {
        Sheet sheet = sheetAt(matrix);
        if (!sheet.hasRow(row) || !sheet.hasColumn(column)) {
            throw new IndexOutOfBoundsException();
        }
        if (!sheet.isSquare() || !sheet.isSmallEnough() || !equations.solveUnit(sheet, column)) {
            throw new UnsupportedOperationException();
        }
        equations.tellFraction(row, isUpper);
        return longOf(equations.told);
    }

    /** Returns how many eigenvalues are greater than a number. */
    public int above(int matrix, int number)
            throws IndexOutOfBoundsException, IllegalArgumentException, UnsupportedOperationException {
        Sheet sheet = sheetAt(matrix);
        if (!isWithin(number, -MOST_SHIFT, MOST_SHIFT)) {
            throw new IllegalArgumentException();
        }
        if (!sheet.isOwnTransposed() || !sheet.isSmallEnough()) {
            throw new UnsupportedOperationException();
        }
        spectrum.load(sheet);
        return spectrum.countAbove(number);
    }

    /** Returns the greatest whole number that is at most an eigenvalue. */
    public int floor(int matrix, int index)
            throws IndexOutOfBoundsException, UnsupportedOperationException {
        Sheet sheet = sheetAt(matrix);
        if (!sheet.hasRow(index)) {
            throw new IndexOutOfBoundsException();
        }
        if (!sheet.isOwnTransposed() || !sheet.isSmallEnough()) {
            throw new UnsupportedOperationException();
        }
        spectrum.load(sheet);
        return spectrum.wholePart(index);
    }

    /** Returns after how many conjugate steps nothing is left. */
    public int steps(int matrix) throws IndexOutOfBoundsException, UnsupportedOperationException {
        Sheet sheet = sheetAt(matrix);
        if (!sheet.isOwnTransposed() || !sheet.isSmallEnough() || !hasAllAboveNothing(sheet)) {
            throw new UnsupportedOperationException();
        }
        return equations.countPowers(sheet);
    }

    // ---- patterns and paths

    /** Returns how many entries a pattern by levels keeps. */
    public int kept(int matrix, int level)
            throws IndexOutOfBoundsException, IllegalArgumentException, UnsupportedOperationException {
        Sheet sheet = sheetAt(matrix);
        if (!isWithin(level, 0, MOST_LEVEL)) {
            throw new IllegalArgumentException();
        }
        if (!sheet.isSquare()) {
            throw new UnsupportedOperationException();
        }
        return patterns.countKept(sheet, level);
    }

    /** Returns the number of the aggregate in which an index is. */
    public int aggregate(int matrix, int index)
            throws IndexOutOfBoundsException, UnsupportedOperationException {
        graph.join(squareWith(matrix, index));
        return patterns.aggregateOf(graph, index);
    }

    /** Returns how many parts of joined indices there are. */
    public int partsOf(int matrix) throws IndexOutOfBoundsException, UnsupportedOperationException {
        graph.join(squareAt(matrix));
        return graph.countParts();
    }

    /** Returns the best path from an index to another one, or back to itself. */
    public int best(int matrix, int from, int to, char kind)
            throws IndexOutOfBoundsException, IllegalArgumentException, UnsupportedOperationException,
            NoSuchElementException {
        Sheet sheet = sheetAt(matrix);
        if (!sheet.hasRow(from) || !sheet.hasRow(to)) {
            throw new IndexOutOfBoundsException();
        }
        if (kind != '+' && kind != 'm' && kind != 'a') {
            throw new IllegalArgumentException();
        }
        if (!sheet.isSquare() || (kind == '+' && sheet.hasEntryBelowNothing())) {
            throw new UnsupportedOperationException();
        }
        patterns.follow(sheet, from, kind);
        if (!patterns.isReached(to)) {
            throw new NoSuchElementException();
        }
        return patterns.valueAt(to);
    }

    /** Returns how many walks of so many arcs lead from an index to another one. */
    public long walks(int matrix, int from, int to, int arcs)
            throws IndexOutOfBoundsException, IllegalArgumentException, UnsupportedOperationException {
        Sheet sheet = sheetAt(matrix);
        if (!sheet.hasRow(from) || !sheet.hasRow(to)) {
            throw new IndexOutOfBoundsException();
        }
        if (!isWithin(arcs, 1, MOST_ARCS)) {
            throw new IllegalArgumentException();
        }
        if (!sheet.isSquare()) {
            throw new UnsupportedOperationException();
        }
        return patterns.countWalks(sheet, from, to, arcs);
    }

    // ---- figures

    /** Returns the share of the entries that are not 0. */
    public float share(int matrix) throws IndexOutOfBoundsException {
        Sheet sheet = sheetAt(matrix);
        return (float) sheet.countEntries() / (float) (sheet.rows * sheet.columns);
    }

    /** Returns the mean count. */
    public double meanCount(int matrix) throws IndexOutOfBoundsException, UnsupportedOperationException {
        Sheet sheet = squareAt(matrix);
        plant(sheet);
        return (double) tree.sumOfCounts() / (double) sheet.rows;
    }

    /** Returns whether all exact answers of all matrices stand the test of putting them in. */
    public boolean isSound() {
        for (int number = 0; number < MOST_MATRICES; number++) {
            Sheet sheet = sheets[number];
            if (sheet == null || !sheet.isSmallEnough()) {
                continue;
            }
            if (!isSquareSound(sheet) || !isLeastSound(sheet) || !isVectorSound(sheet)) {
                return false;
            }
        }
        return true;
    }

    // ---- behind the face

    private static boolean isWithin(int number, int lowest, int highest) {
        return number >= lowest && number <= highest;
    }

    private Sheet sheetAt(int number) {
        Sheet sheet = isWithin(number, 0, MOST_MATRICES - 1) ? sheets[number] : null;
        if (sheet == null) {
            throw new IndexOutOfBoundsException();
        }
        return sheet;
    }

    private Sheet squareAt(int number) {
        Sheet sheet = sheetAt(number);
        if (!sheet.isSquare()) {
            throw new UnsupportedOperationException();
        }
        return sheet;
    }

    private Sheet squareWith(int number, int row) {
        Sheet sheet = sheetAt(number);
        if (!sheet.hasRow(row)) {
            throw new IndexOutOfBoundsException();
        }
        if (!sheet.isSquare()) {
            throw new UnsupportedOperationException();
        }
        return sheet;
    }

    private int keep(Sheet sheet) {
        int number = held;
        if (number < 0 || number >= MOST_MATRICES) {
            return -1;
        }
        sheets[number] = sheet;
        held = number + 1;
        return number;
    }

    private static Sheet turned(Sheet sheet) {
        Sheet result = new Sheet(sheet.columns, sheet.rows);
        for (int row = 0; row < sheet.rows; row++) {
            for (int column = 0; column < sheet.columns; column++) {
                result.cells[column][row] = sheet.cells[row][column];
            }
        }
        return result;
    }

    private static int sumOfProducts(Sheet first, Sheet second, int row, int column) {
        int sum = 0;
        for (int between = 0; between < first.columns; between++) {
            sum += first.cells[row][between] * second.cells[between][column];
        }
        return sum;
    }

    private static boolean hasSmallProduct(Sheet first, Sheet second) {
        for (int row = 0; row < first.rows; row++) {
            for (int column = 0; column < second.columns; column++) {
                if (!isWithin(sumOfProducts(first, second, row, column), -MOST_ENTRY, MOST_ENTRY)) {
                    return false;
                }
            }
        }
        return true;
    }

    private static Sheet product(Sheet first, Sheet second) {
        Sheet result = new Sheet(first.rows, second.columns);
        for (int row = 0; row < first.rows; row++) {
            for (int column = 0; column < second.columns; column++) {
                result.cells[row][column] = sumOfProducts(first, second, row, column);
            }
        }
        return result;
    }

    private static int countForetold(Sheet first, Sheet second) {
        int count = 0;
        for (int row = 0; row < first.rows; row++) {
            for (int column = 0; column < second.columns; column++) {
                boolean isMet = false;
                for (int between = 0; between < first.columns; between++) {
                    if (first.cells[row][between] != 0 && second.cells[between][column] != 0) {
                        isMet = true;
                    }
                }
                count += isMet ? 1 : 0;
            }
        }
        return count;
    }

    private static long longOf(Amount amount) {
        if (!amount.isLong()) {
            throw new ArithmeticException();
        }
        return amount.asLong();
    }

    private void plant(Sheet sheet) {
        graph.join(sheet);
        tree.eliminate(graph, sheet.order);
    }

    private boolean isAnsweredModulo(Sheet sheet, int prime) {
        table.load(sheet, prime);
        return table.clearSquare(false) != 0;
    }

    private boolean hasAllAboveNothing(Sheet sheet) {
        spectrum.load(sheet);
        return spectrum.countAbove(0) == sheet.rows;
    }

    private boolean isSquareSound(Sheet sheet) {
        if (!sheet.isSquare()) {
            return true;
        }
        boolean isAnswered = equations.solve(sheet, 's');
        if (isAnswered && !equations.doRowsHold()) {
            return false;
        }
        return equations.agreesOnDeterminant(sheet, isAnswered, 2)
                && equations.agreesOnDeterminant(sheet, isAnswered, 3)
                && equations.agreesOnDeterminant(sheet, isAnswered, 997)
                && (!isAnswered || (equations.agreesOnAnswers(sheet, 997, false)
                        && equations.agreesOnAnswers(sheet, 997, true)));
    }

    private boolean isLeastSound(Sheet sheet) {
        if (equations.solve(sheet, 'l') && !equations.doRowsHold()) {
            return false;
        }
        return !equations.solve(sheet, 'n') || equations.doRowsHold();
    }

    private boolean isVectorSound(Sheet sheet) {
        return !equations.solveDependence(sheet) || equations.isVectorTurnedIntoNothing(sheet);
    }

    /** One matrix, with its right side and the order of its indices. */
    private static final class Sheet {
        private final int rows;
        private final int columns;
        private final int[][] cells = new int[MOST_SIDE][MOST_SIDE];
        private final int[] rights = new int[MOST_SIDE];
        private final int[] order = new int[MOST_SIDE];

        Sheet(int rows, int columns) {
            this.rows = rows;
            this.columns = columns;
            for (int index = 0; index < MOST_SIDE; index++) {
                order[index] = index;
            }
        }

        boolean hasRow(int row) {
            return row >= 0 && row < rows;
        }

        boolean hasColumn(int column) {
            return column >= 0 && column < columns;
        }

        boolean isSquare() {
            return rows == columns;
        }

        boolean isSmallEnough() {
            return rows <= MOST_EXACT && columns <= MOST_EXACT;
        }

        boolean isOwnTransposed() {
            if (rows != columns) {
                return false;
            }
            for (int row = 0; row < rows; row++) {
                for (int column = 0; column < row; column++) {
                    if (cells[row][column] != cells[column][row]) {
                        return false;
                    }
                }
            }
            return true;
        }

        boolean hasEntryBelowNothing() {
            for (int row = 0; row < rows; row++) {
                for (int column = 0; column < columns; column++) {
                    if (cells[row][column] < 0) {
                        return true;
                    }
                }
            }
            return false;
        }

        int countEntries() {
            int count = 0;
            for (int row = 0; row < rows; row++) {
                count += countInRow(row);
            }
            return count;
        }

        private int countInRow(int row) {
            int count = 0;
            for (int column = 0; column < columns; column++) {
                count += cells[row][column] != 0 ? 1 : 0;
            }
            return count;
        }

        private int countInColumn(int column) {
            int count = 0;
            for (int row = 0; row < rows; row++) {
                count += cells[row][column] != 0 ? 1 : 0;
            }
            return count;
        }

        int exchangeRows(int one, int other) {
            for (int column = 0; column < columns; column++) {
                int entry = cells[one][column];
                cells[one][column] = cells[other][column];
                cells[other][column] = entry;
            }
            int number = rights[one];
            rights[one] = rights[other];
            rights[other] = number;
            return countInRow(one) + (one == other ? 0 : countInRow(other));
        }

        int exchangeColumns(int one, int other) {
            for (int row = 0; row < rows; row++) {
                int entry = cells[row][one];
                cells[row][one] = cells[row][other];
                cells[row][other] = entry;
            }
            return countInColumn(one) + (one == other ? 0 : countInColumn(other));
        }
    }

    /** A greatest matching of a matrix, and its blocks. */
    private static final class Matching {
        private int rows = 0;
        private int columns = 0;
        private final int[] columnsOf = new int[MOST_SIDE];
        private final int[] columnMatched = new int[MOST_SIDE];
        private final int[] rowMatched = new int[MOST_SIDE];
        private final int[] reachedFrom = new int[MOST_SIDE];
        private final int[] queue = new int[MOST_SIDE];
        private final int[] reaches = new int[MOST_SIDE];

        /** Matches entries of at least so great an amount and returns how many. */
        int match(Sheet sheet, int amount) {
            rows = sheet.rows;
            columns = sheet.columns;
            for (int row = 0; row < MOST_SIDE; row++) {
                columnMatched[row] = -1;
                rowMatched[row] = -1;
                columnsOf[row] = 0;
            }
            for (int row = 0; row < rows; row++) {
                for (int column = 0; column < columns; column++) {
                    if (Math.abs(sheet.cells[row][column]) >= amount) {
                        columnsOf[row] |= 1 << column;
                    }
                }
            }
            int count = 0;
            for (int row = 0; row < rows; row++) {
                count += isAdded(row) ? 1 : 0;
            }
            return count;
        }

        /** Looks for a way by turns out of and in the matching from a row to a column that is free. */
        private boolean isAdded(int root) {
            int seen = 0;
            int end = 1;
            queue[0] = root;
            for (int at = 0; at < end && at < MOST_SIDE; at++) {
                int row = queue[at];
                for (int column = 0; column < columns; column++) {
                    int bit = 1 << column;
                    if ((columnsOf[row] & bit) == 0 || (seen & bit) != 0) {
                        continue;
                    }
                    seen |= bit;
                    reachedFrom[column] = row;
                    if (rowMatched[column] < 0) {
                        turnWay(column);
                        return true;
                    }
                    if (end < MOST_SIDE) {
                        queue[end] = rowMatched[column];
                        end++;
                    }
                }
            }
            return false;
        }

        private void turnWay(int lastColumn) {
            int column = lastColumn;
            for (int turn = 0; turn < MOST_SIDE && column >= 0; turn++) {
                int row = reachedFrom[column];
                int next = columnMatched[row];
                columnMatched[row] = column;
                rowMatched[column] = row;
                column = next;
            }
        }

        /** Halves between amounts: a matching that holds for one holds for all below it. */
        int greatestLeast(Sheet sheet) {
            int most = match(sheet, 1);
            int holds = 1;
            int fails = MOST_ENTRY + 1;
            for (int turn = 0; turn < MOST_ENTRY && fails - holds > 1; turn++) {
                int amount = (holds + fails) / 2;
                if (match(sheet, amount) == most) {
                    holds = amount;
                } else {
                    fails = amount;
                }
            }
            return holds;
        }

        /** Finds for each row the rows to which a path leads, if all are matched. */
        private void reach() {
            for (int row = 0; row < rows; row++) {
                reaches[row] = 1 << row;
                for (int column = 0; column < columns; column++) {
                    if ((columnsOf[row] & 1 << column) != 0 && rowMatched[column] >= 0) {
                        reaches[row] |= 1 << rowMatched[column];
                    }
                }
            }
            for (int over = 0; over < rows; over++) {
                for (int row = 0; row < rows; row++) {
                    if ((reaches[row] & 1 << over) != 0) {
                        reaches[row] |= reaches[over];
                    }
                }
            }
        }

        private int blockWith(int row) {
            int block = 0;
            for (int other = 0; other < rows; other++) {
                if ((reaches[row] & 1 << other) != 0 && (reaches[other] & 1 << row) != 0) {
                    block |= 1 << other;
                }
            }
            return block;
        }

        int sizeOfBlock(int row) {
            reach();
            return Integer.bitCount(blockWith(row));
        }

        /** Counts each block at its lowest row. */
        int countBlocks() {
            reach();
            int count = 0;
            for (int row = 0; row < rows; row++) {
                int lower = (1 << row) - 1;
                count += (blockWith(row) & lower) == 0 ? 1 : 0;
            }
            return count;
        }
    }

    /** Which indices of a square matrix are joined; a set of indices is a bit for each. */
    private static final class Graph {
        private int size = 0;
        private final int[] joined = new int[MOST_SIDE];

        void join(Sheet sheet) {
            size = sheet.rows;
            for (int one = 0; one < size; one++) {
                joined[one] = 0;
                for (int other = 0; other < size; other++) {
                    boolean isEither = sheet.cells[one][other] != 0 || sheet.cells[other][one] != 0;
                    if (one != other && isEither) {
                        joined[one] |= 1 << other;
                    }
                }
            }
        }

        int everyIndex() {
            return (1 << size) - 1;
        }

        /** Returns the lowest index of a set, -1 for none. */
        static int lowestOf(int indices) {
            for (int index = 0; index < MOST_SIDE; index++) {
                if ((indices & 1 << index) != 0) {
                    return index;
                }
            }
            return -1;
        }

        /** Returns that of some which is joined with the fewest in a set, the lowest; -1 for none. */
        int fewestJoined(int some, int within) {
            int result = -1;
            int fewest = MOST_SIDE;
            for (int index = 0; index < size; index++) {
                int number = Integer.bitCount(joined[index] & within);
                if ((some & 1 << index) != 0 && number < fewest) {
                    result = index;
                    fewest = number;
                }
            }
            return result;
        }

        /** Returns all that are joined with one of some. */
        int besides(int some) {
            int result = 0;
            for (int index = 0; index < size; index++) {
                if ((some & 1 << index) != 0) {
                    result |= joined[index];
                }
            }
            return result;
        }

        /** Returns all of a set that are joined with one of it over others of it, and that one. */
        int partWith(int index, int within) {
            int part = 1 << index;
            for (int turn = 0; turn < size; turn++) {
                part |= besides(part) & within;
            }
            return part;
        }

        int countParts() {
            int left = everyIndex();
            int count = 0;
            for (int turn = 0; turn < size && left != 0; turn++) {
                left &= ~partWith(lowestOf(left), left);
                count++;
            }
            return count;
        }

        /** Joins all of a set with each other and returns how many pairs were not joined before. */
        int joinAll(int some) {
            int ends = 0;
            for (int index = 0; index < size; index++) {
                if ((some & 1 << index) != 0) {
                    int added = some & ~joined[index] & ~(1 << index);
                    joined[index] |= added;
                    ends += Integer.bitCount(added);
                }
            }
            return ends / 2;
        }
    }

    /** The four ways to order indices. */
    private static final class Orders {
        private static final int MOST_TURNS = 1000;
        /** What is to be done with a set that waits: ordering it, its parts one by one, or nothing. */
        private static final int WHOLE = 0;
        private static final int PARTED = 1;
        private static final int PLAIN = 2;

        private final int[] waiting = new int[MOST_SIDE];
        private final int[] kinds = new int[MOST_SIDE];
        private int waitingCount = 0;
        private final int[] placeOf = new int[MOST_SIDE];

        void put(Graph graph, char kind, int[] order) {
            if (kind == 'd') {
                putByDegree(graph, order);
            } else if (kind == 'w') {
                putByWidth(graph, order);
            } else if (kind == 's') {
                putBySeparators(graph, order);
            } else {
                putByNumbers(graph.everyIndex(), order, 0);
            }
        }

        /** Puts a set from a place on and returns the place behind it. */
        private static int putByNumbers(int some, int[] order, int from) {
            int place = from;
            for (int index = 0; index < MOST_SIDE && place < MOST_SIDE; index++) {
                if ((some & 1 << index) != 0) {
                    order[place] = index;
                    place++;
                }
            }
            return place;
        }

        private static void putByDegree(Graph graph, int[] order) {
            int left = graph.everyIndex();
            for (int place = 0; place < graph.size; place++) {
                int index = graph.fewestJoined(left, left);
                if (index < 0) {
                    return;
                }
                order[place] = index;
                left &= ~(1 << index);
                graph.joinAll(graph.joined[index] & left);
            }
        }

        /** The order itself is the queue of those that wait for their turn. */
        private static void putByWidth(Graph graph, int[] order) {
            int left = graph.everyIndex();
            int taken = 0;
            for (int turn = 0; turn < graph.size; turn++) {
                if (turn == taken) {
                    int first = graph.fewestJoined(left, graph.everyIndex());
                    if (first < 0) {
                        return;
                    }
                    order[taken] = first;
                    taken++;
                    left &= ~(1 << first);
                }
                int near = graph.joined[order[turn]] & left;
                taken = putByJoined(graph, near, order, taken);
                left &= ~near;
            }
            turnRound(order, graph.size);
        }

        /** Puts a set by rising numbers of all with which they are joined; returns the place behind it. */
        private static int putByJoined(Graph graph, int some, int[] order, int from) {
            int left = some;
            int place = from;
            for (int turn = 0; turn < MOST_SIDE && place < MOST_SIDE; turn++) {
                int index = graph.fewestJoined(left, graph.everyIndex());
                if (index < 0) {
                    return place;
                }
                order[place] = index;
                place++;
                left &= ~(1 << index);
            }
            return place;
        }

        private static void turnRound(int[] order, int size) {
            for (int place = 0; place < size / 2; place++) {
                int index = order[place];
                order[place] = order[size - 1 - place];
                order[size - 1 - place] = index;
            }
        }

        /** The sets that wait share no index, so that there are never more of them than indices. */
        private void putBySeparators(Graph graph, int[] order) {
            waitingCount = 0;
            leave(graph.everyIndex(), WHOLE);
            int place = 0;
            for (int turn = 0; turn < MOST_TURNS && waitingCount > 0; turn++) {
                waitingCount--;
                int some = waiting[waitingCount];
                int kind = kinds[waitingCount];
                int part = graph.partWith(Graph.lowestOf(some), some);
                if (kind == PARTED) {
                    leave(some & ~part, PARTED);
                    leave(part, WHOLE);
                } else if (kind == PLAIN || Integer.bitCount(some) <= 3) {
                    place = putByNumbers(some, order, place);
                } else if (part != some) {
                    leave(some, PARTED);
                } else {
                    separate(graph, some);
                }
            }
        }

        private void leave(int some, int kind) {
            if (some != 0 && waitingCount < MOST_SIDE) {
                waiting[waitingCount] = some;
                kinds[waitingCount] = kind;
                waitingCount++;
            }
        }

        /** What comes first waits last, as the last one is taken out first. */
        private void separate(Graph graph, int some) {
            int first = graph.fewestJoined(some, some);
            if (first < 0) {
                return;
            }
            int level = 1 << first;
            int lower = 0;
            int reached = level;
            int half = (Integer.bitCount(some) + 1) / 2;
            for (int turn = 0; turn < MOST_SIDE && Integer.bitCount(reached) < half; turn++) {
                level = graph.besides(level) & some & ~reached;
                lower = reached;
                reached |= level;
            }
            int higher = some & ~reached;
            if (lower == 0 || higher == 0) {
                leave(some, PLAIN);
            } else {
                leave(level, PLAIN);
                leave(higher, WHOLE);
                leave(lower, WHOLE);
            }
        }

        /** Returns the most places by which two joined indices are apart. */
        int farthest(Graph graph, int[] order) {
            for (int place = 0; place < graph.size; place++) {
                placeOf[order[place]] = place;
            }
            int most = 0;
            for (int one = 0; one < graph.size; one++) {
                for (int other = 0; other < graph.size; other++) {
                    if ((graph.joined[one] & 1 << other) != 0) {
                        most = Math.max(most, placeOf[one] - placeOf[other]);
                    }
                }
            }
            return most;
        }
    }

    /** The tree of elimination in an order. */
    private static final class Tree {
        private int size = 0;
        private int newPairs = 0;
        private final int[] parents = new int[MOST_SIDE];
        private final int[] counts = new int[MOST_SIDE];
        private final int[] order = new int[MOST_SIDE];
        private final int[] placeOf = new int[MOST_SIDE];
        private final int[] children = new int[MOST_SIDE];
        private final int[] peaks = new int[MOST_SIDE];
        private final int[] ticksUp = new int[MOST_SIDE];
        private final int[] ends = new int[MOST_SIDE];

        /** Eliminates all indices; the graph is filled by it. */
        void eliminate(Graph graph, int[] places) {
            size = graph.size;
            newPairs = 0;
            for (int place = 0; place < size; place++) {
                order[place] = places[place];
                placeOf[places[place]] = place;
                children[place] = 0;
            }
            int left = graph.everyIndex();
            for (int place = 0; place < size; place++) {
                int index = order[place];
                left &= ~(1 << index);
                int met = graph.joined[index] & left;
                counts[index] = 1 + Integer.bitCount(met);
                parents[index] = firstOf(met);
                if (parents[index] >= 0) {
                    children[parents[index]] |= 1 << index;
                }
                newPairs += graph.joinAll(met);
            }
        }

        private int firstOf(int some) {
            int first = -1;
            for (int index = 0; index < size; index++) {
                if ((some & 1 << index) != 0 && (first < 0 || placeOf[index] < placeOf[first])) {
                    first = index;
                }
            }
            return first;
        }

        int countUpward(int from) {
            int index = from;
            int count = 0;
            for (int turn = 0; turn < size && index >= 0; turn++) {
                count++;
                index = parents[index];
            }
            return count;
        }

        int sumOfCounts() {
            int sum = 0;
            for (int index = 0; index < size; index++) {
                sum += counts[index];
            }
            return sum;
        }

        int countSupernodes() {
            int number = 0;
            for (int place = 0; place < size; place++) {
                int index = order[place];
                int ahead = place > 0 ? order[place - 1] : -1;
                boolean isGoingOn = ahead >= 0 && children[index] == 1 << ahead
                        && counts[ahead] == counts[index] + 1;
                number += isGoingOn ? 0 : 1;
            }
            return number;
        }

        private int handedOn(int index) {
            return (counts[index] - 1) * (counts[index] - 1);
        }

        /** Parents come behind their children in the order, so that one pass finds all peaks. */
        int mostCells() {
            int most = 0;
            for (int place = 0; place < size; place++) {
                int index = order[place];
                peaks[index] = peakOf(index);
                if (parents[index] < 0) {
                    most = Math.max(most, peaks[index]);
                }
            }
            return most;
        }

        /** The best order of children begins with those that free the most when they are done. */
        private int peakOf(int index) {
            int left = children[index];
            int stacked = 0;
            int peak = 0;
            for (int turn = 0; turn < size && left != 0; turn++) {
                int child = freeingMost(left);
                if (child >= 0) {
                    peak = Math.max(peak, stacked + peaks[child]);
                    stacked += handedOn(child);
                    left &= ~(1 << child);
                }
            }
            return Math.max(peak, stacked + counts[index] * counts[index]);
        }

        private int freeingMost(int some) {
            int result = -1;
            for (int index = 0; index < size; index++) {
                if ((some & 1 << index) != 0
                        && (result < 0 || peaks[index] - handedOn(index) > peaks[result] - handedOn(result))) {
                    result = index;
                }
            }
            return result;
        }

        /** Goes from one time at which work ends to the next; all that ends then ends first. */
        int ticksUntilDone(int processors) {
            sumTicksUp();
            int waiting = (1 << size) - 1;
            int running = 0;
            int now = 0;
            for (int turn = 0; turn < size && (waiting | running) != 0; turn++) {
                for (int free = processors - Integer.bitCount(running); free > 0; free--) {
                    int next = mostUrgent(waiting, waiting | running);
                    if (next >= 0) {
                        waiting &= ~(1 << next);
                        running |= 1 << next;
                        ends[next] = now + counts[next] * counts[next];
                    }
                }
                now = nextEnd(running, now);
                running = stillRunning(running, now);
            }
            return now;
        }

        private void sumTicksUp() {
            for (int place = size - 1; place >= 0; place--) {
                int index = order[place];
                int onward = parents[index] < 0 ? 0 : ticksUp[parents[index]];
                ticksUp[index] = counts[index] * counts[index] + onward;
            }
        }

        private int mostUrgent(int waiting, int undone) {
            int result = -1;
            for (int index = 0; index < size; index++) {
                if ((waiting & 1 << index) != 0 && (children[index] & undone) == 0
                        && (result < 0 || ticksUp[index] > ticksUp[result])) {
                    result = index;
                }
            }
            return result;
        }

        private int nextEnd(int running, int now) {
            int soonest = -1;
            for (int index = 0; index < size; index++) {
                if ((running & 1 << index) != 0 && (soonest < 0 || ends[index] < soonest)) {
                    soonest = ends[index];
                }
            }
            return soonest < 0 ? now : soonest;
        }

        private int stillRunning(int running, int now) {
            int result = running;
            for (int index = 0; index < size; index++) {
                if (ends[index] <= now) {
                    result &= ~(1 << index);
                }
            }
            return result;
        }
    }

    /**
     * Reckoning modulo primes, and equations modulo one of them, with the right side in the column
     * behind the last one.
     */
    private static final class Table {
        private static final int MOST_SMALL_PRIME = 997;
        /** Below 2^31, so that products fit into a long; above 2^30.99, as bounds on their number say. */
        private static final long[] GREAT_PRIMES = {
            2147483647L, 2147483629L, 2147483587L, 2147483579L, 2147483563L, 2147483549L,
            2147483543L, 2147483497L, 2147483489L, 2147483477L, 2147483423L, 2147483399L,
            2147483353L, 2147483323L, 2147483269L, 2147483249L, 2147483237L, 2147483179L,
            2147483171L, 2147483137L, 2147483123L, 2147483077L, 2147483069L, 2147483059L
        };
        private static final int MOST_DIVISIONS = 100;

        private int rows = 0;
        private int columns = 0;
        private long prime = 2;
        private final long[][] cells = new long[MOST_SIDE][MOST_SIDE + 1];
        /** From which row those of the table came, as they are exchanged. */
        private final int[] sources = new int[MOST_SIDE];
        private boolean isFromRight = false;
        private int independent = 0;

        void begin(int newRows, int newColumns, long newPrime) {
            rows = Math.max(0, Math.min(newRows, MOST_SIDE));
            columns = Math.max(0, Math.min(newColumns, MOST_SIDE));
            prime = Math.max(2, newPrime);
            for (int row = 0; row < rows; row++) {
                sources[row] = row;
                for (int column = 0; column <= columns; column++) {
                    cells[row][column] = 0;
                }
            }
        }

        void load(Sheet sheet, long newPrime) {
            begin(sheet.rows, sheet.columns, newPrime);
            for (int row = 0; row < rows; row++) {
                for (int column = 0; column < columns; column++) {
                    cells[row][column] = reduce(sheet.cells[row][column], prime);
                }
                cells[row][columns] = reduce(sheet.rights[row], prime);
            }
        }

        /**
         * Clears a square table to ones in the diagonal, by columns from the left or the right, and
         * returns the determinant, without the sign that turning the columns round gives; 0 if it stops.
         */
        long clearSquare(boolean fromRight) {
            isFromRight = fromRight;
            long result = 1;
            for (int step = 0; step < columns && step < rows; step++) {
                int column = fromRight ? columns - 1 - step : step;
                int pivot = pivotRow(step, column);
                if (pivot < 0) {
                    return 0;
                }
                if (pivot != step) {
                    exchangeRows(pivot, step);
                    result = prime - result;
                }
                result = result * cells[step][column] % prime;
                clearColumn(step, column);
            }
            return result;
        }

        /** Returns a number of the answer after clearing. */
        long solved(int column) {
            int row = isFromRight ? columns - 1 - column : column;
            return row >= 0 && row < rows ? cells[row][columns] : 0;
        }

        /** Returns the rank, and keeps how many of the first columns are independent. */
        int findRank() {
            int found = 0;
            independent = columns;
            for (int column = 0; column < columns; column++) {
                int pivot = pivotRow(found, column);
                if (pivot >= 0) {
                    exchangeRows(pivot, found);
                    clearColumn(found, column);
                    found++;
                } else if (independent == columns) {
                    independent = found;
                }
            }
            return found;
        }

        private int pivotRow(int from, int column) {
            for (int row = from; row < rows; row++) {
                if (cells[row][column] != 0) {
                    return row;
                }
            }
            return -1;
        }

        private void exchangeRows(int one, int other) {
            for (int column = 0; column <= columns; column++) {
                long cell = cells[one][column];
                cells[one][column] = cells[other][column];
                cells[other][column] = cell;
            }
            int source = sources[one];
            sources[one] = sources[other];
            sources[other] = source;
        }

        /** Makes the pivot 1 and all others in its column 0. */
        private void clearColumn(int pivot, int cleared) {
            long factor = invert(cells[pivot][cleared], prime);
            for (int column = 0; column <= columns; column++) {
                cells[pivot][column] = cells[pivot][column] * factor % prime;
            }
            for (int row = 0; row < rows; row++) {
                long times = prime - cells[row][cleared];
                if (row == pivot || times == prime) {
                    continue;
                }
                for (int column = 0; column <= columns; column++) {
                    if (cells[pivot][column] != 0) {
                        cells[row][column] = (cells[row][column] + times * cells[pivot][column]) % prime;
                    }
                }
            }
        }

        static boolean isSmallPrime(int number) {
            if (number < 2 || number > MOST_SMALL_PRIME) {
                return false;
            }
            for (int divisor = 2; divisor * divisor <= number; divisor++) {
                if (number % divisor == 0) {
                    return false;
                }
            }
            return true;
        }

        static long reduce(long value, long prime) {
            if (prime < 2) {
                return 0;
            }
            long rest = value % prime;
            return rest < 0 ? rest + prime : rest;
        }

        /** Returns by what a value that is not 0 is to be multiplied to get 1. */
        static long invert(long value, long prime) {
            long last = prime;
            long rest = value;
            long lastFactor = 0;
            long factor = 1;
            for (int turn = 0; turn < MOST_DIVISIONS && rest != 0; turn++) {
                long times = last / rest;
                long next = last - times * rest;
                last = rest;
                rest = next;
                next = lastFactor - times * factor;
                lastFactor = factor;
                factor = next;
            }
            return lastFactor < 0 ? lastFactor + prime : lastFactor;
        }
    }

    /** A whole number of up to 81 digits, by nine digits each, the lowest first. */
    private static final class Amount {
        private static final int PARTS = 9;
        private static final int DIGITS = 9;
        private static final long BASE = 1000000000L;
        private static final int MOST_HALVINGS = 1000;
        private static final long LOWEST_LONG = -9223372036854775808L;

        private final long[] parts = new long[PARTS];
        private boolean isBelow = false;

        void clear() {
            isBelow = false;
            for (int at = 0; at < PARTS; at++) {
                parts[at] = 0;
            }
        }

        /** Multiplies the amount, without its sign, and adds to it. */
        void grow(long factor, long more) {
            long carry = more;
            for (int at = 0; at < PARTS; at++) {
                long value = parts[at] * factor + carry;
                parts[at] = value % BASE;
                carry = value / BASE;
            }
        }

        boolean isNothing() {
            for (int at = 0; at < PARTS; at++) {
                if (parts[at] != 0) {
                    return false;
                }
            }
            return true;
        }

        private boolean isEven() {
            return (parts[0] & 1) == 0;
        }

        private void halve() {
            long carry = 0;
            for (int at = PARTS - 1; at >= 0; at--) {
                long value = parts[at] + carry * BASE;
                parts[at] = value / 2;
                carry = value & 1;
            }
        }

        private void halveWhileEven() {
            for (int turn = 0; turn < MOST_HALVINGS && isEven() && !isNothing(); turn++) {
                halve();
            }
        }

        private boolean isLessThan(Amount other) {
            for (int at = PARTS - 1; at >= 0; at--) {
                if (parts[at] != other.parts[at]) {
                    return parts[at] < other.parts[at];
                }
            }
            return false;
        }

        private void takeAway(Amount less) {
            long borrow = 0;
            for (int at = 0; at < PARTS; at++) {
                long value = parts[at] - less.parts[at] - borrow;
                borrow = value < 0 ? 1 : 0;
                parts[at] = value + borrow * BASE;
            }
        }

        /**
         * Becomes the greatest common divisor of itself, which is not 0, and another one, signs aside;
         * the other one is used up. Each turn takes at least one binary digit off.
         */
        void becomeDivisor(Amount other) {
            int twos = 0;
            for (; twos < MOST_HALVINGS && isEven() && other.isEven(); twos++) {
                halve();
                other.halve();
            }
            halveWhileEven();
            for (int turn = 0; turn < MOST_HALVINGS && !other.isNothing(); turn++) {
                other.halveWhileEven();
                if (other.isLessThan(this)) {
                    takeAway(other);
                    halveWhileEven();
                } else {
                    other.takeAway(this);
                }
            }
            for (int turn = 0; turn < twos; turn++) {
                grow(2, 0);
            }
        }

        /** Returns the amount, without its sign, modulo a prime. */
        long remainder(long prime) {
            if (prime < 2) {
                return 0;
            }
            long rest = 0;
            for (int at = PARTS - 1; at >= 0; at--) {
                rest = (rest * BASE + parts[at]) % prime;
            }
            return rest;
        }

        long signedRemainder(long prime) {
            long rest = remainder(prime);
            return isBelow && rest != 0 ? prime - rest : rest;
        }

        int countDigits() {
            for (int at = PARTS - 1; at >= 0; at--) {
                if (parts[at] != 0) {
                    return at * DIGITS + digitsOf(parts[at]);
                }
            }
            return 1;
        }

        private static int digitsOf(long part) {
            int count = 0;
            long left = part;
            for (int turn = 0; turn < DIGITS && left > 0; turn++) {
                left /= 10;
                count++;
            }
            return count;
        }

        boolean isLong() {
            for (int at = 3; at < PARTS; at++) {
                if (parts[at] != 0) {
                    return false;
                }
            }
            if (parts[2] > 9) {
                return false;
            }
            long value = unsignedLong();
            return value >= 0 || (isBelow && value == LOWEST_LONG);
        }

        /** Up to 10^19 - 1 this wraps round at most once, so that its sign tells whether it did. */
        private long unsignedLong() {
            return (parts[2] * BASE + parts[1]) * BASE + parts[0];
        }

        long asLong() {
            return isBelow ? -unsignedLong() : unsignedLong();
        }
    }

    /** Puts whole numbers together again from what they are modulo some great primes. */
    private static final class Joiner {
        /** Numbers are below 10^70, of either sign: eight primes reach far beyond. */
        private static final int NEEDED = 8;

        private int taken = 0;
        private final long[] moduli = new long[NEEDED];
        private final long[] weights = new long[NEEDED];
        private final long[] mixed = new long[NEEDED];

        void take(long prime) {
            if (taken >= NEEDED || prime < 2) {
                return;
            }
            long before = 1;
            for (int at = 0; at < taken; at++) {
                before = before * moduli[at] % prime;
            }
            moduli[taken] = prime;
            weights[taken] = Table.invert(before, prime);
            taken++;
        }

        /** Finds how many times the product of the primes before each one goes in, modulo it. */
        private void mix(long[] residues) {
            for (int at = 0; at < taken; at++) {
                long prime = moduli[at];
                if (prime < 2) {
                    return;
                }
                long known = 0;
                for (int before = at - 1; before >= 0; before--) {
                    known = (known * moduli[before] + mixed[before]) % prime;
                }
                mixed[at] = (residues[at] + prime - known) % prime * weights[at] % prime;
            }
        }

        /** What is below 0 stands in the upper half, as the bound leaves the middle free. */
        private boolean isMixedBelow() {
            return mixed[NEEDED - 1] > moduli[NEEDED - 1] / 2;
        }

        int signOf(long[] residues) {
            mix(residues);
            for (int at = 0; at < taken; at++) {
                if (mixed[at] != 0) {
                    return isMixedBelow() ? -1 : 1;
                }
            }
            return 0;
        }

        void restore(long[] residues, Amount amount) {
            mix(residues);
            boolean isBelow = isMixedBelow();
            amount.clear();
            for (int at = taken - 1; at >= 0; at--) {
                amount.grow(moduli[at], isBelow ? moduli[at] - 1 - mixed[at] : mixed[at]);
            }
            if (isBelow) {
                amount.grow(1, 1);
            }
            amount.isBelow = isBelow;
        }
    }

    /**
     * Equations in whole numbers, answered modulo great primes: each answer is a numerator over the
     * determinant of a square system, and both are whole numbers that can be put together again.
     */
    private static final class Equations {
        /** Of a determinant below 10^35 that is not 0, one of four great primes is no divisor. */
        private static final int RANK_PRIMES = 4;
        private static final int LOWER = MOST_EXACT;

        private final Table table = new Table();
        private final Joiner joiner = new Joiner();
        private int rows = 0;
        private int columns = 0;
        /** What is to hold, with the right side in the column behind the last one. */
        private final long[][] given = new long[MOST_EXACT][MOST_EXACT + 1];
        /** Of each numerator, and in the row LOWER of the denominator, what it is modulo each prime. */
        private final long[][] residues = new long[MOST_EXACT + 1][Joiner.NEEDED];
        private final long[] scratch = new long[MOST_SIDE];
        private final int[] chosenRows = new int[MOST_SIDE];
        private int dependent = 0;
        private boolean isTurned = false;
        private final Amount told = new Amount();
        private final Amount divisor = new Amount();
        private final Amount used = new Amount();
        private final long[][] sums = new long[MOST_EXACT][Amount.PARTS];

        /** Answers in one of the ways, and leaves as given what the answer must satisfy. */
        boolean solve(Sheet sheet, char way) {
            if (way == 's') {
                loadPlain(sheet);
                return sheet.isSquare() && solveGiven();
            }
            if (way == 'l') {
                loadColumns(sheet);
                return sheet.columns <= sheet.rows && solveGiven();
            }
            loadRows(sheet);
            if (sheet.columns < sheet.rows || !solveGiven()) {
                return false;
            }
            multiplyByRows(sheet);
            loadPlain(sheet);
            return true;
        }

        boolean solveUnit(Sheet sheet, int column) {
            loadPlain(sheet);
            for (int row = 0; row < rows; row++) {
                given[row][columns] = row == column ? 1 : 0;
            }
            return solveGiven();
        }

        void findDeterminant(Sheet sheet) {
            loadPlain(sheet);
            if (solveGiven()) {
                joiner.restore(residues[LOWER], told);
            } else {
                told.clear();
            }
        }

        private void setSize(int newRows, int newColumns) {
            rows = Math.max(0, Math.min(newRows, MOST_EXACT));
            columns = Math.max(0, Math.min(newColumns, MOST_EXACT));
        }

        private void loadPlain(Sheet sheet) {
            setSize(sheet.rows, sheet.columns);
            for (int row = 0; row < rows; row++) {
                for (int column = 0; column < columns; column++) {
                    given[row][column] = sheet.cells[row][column];
                }
                given[row][columns] = sheet.rights[row];
            }
        }

        /** What least squares leave is at right angles to all columns. */
        private void loadColumns(Sheet sheet) {
            setSize(sheet.columns, sheet.columns);
            for (int one = 0; one < rows; one++) {
                for (int other = 0; other <= columns; other++) {
                    long sum = 0;
                    for (int row = 0; row < sheet.rows; row++) {
                        int factor = other == columns ? sheet.rights[row] : sheet.cells[row][other];
                        sum += sheet.cells[row][one] * factor;
                    }
                    given[one][other] = sum;
                }
            }
        }

        /** The least answer is a sum of rows, so that it is asked how much of each row. */
        private void loadRows(Sheet sheet) {
            setSize(sheet.rows, sheet.rows);
            for (int one = 0; one < rows; one++) {
                for (int other = 0; other < columns; other++) {
                    long sum = 0;
                    for (int column = 0; column < sheet.columns; column++) {
                        sum += sheet.cells[one][column] * sheet.cells[other][column];
                    }
                    given[one][other] = sum;
                }
                given[one][columns] = sheet.rights[one];
            }
        }

        /** A denominator of at most 10^70 has at most seven great divisors: eight mean that it is 0. */
        private boolean solveGiven() {
            joiner.taken = 0;
            int failed = 0;
            for (int at = 0; at < Table.GREAT_PRIMES.length; at++) {
                if (joiner.taken >= Joiner.NEEDED || failed >= Joiner.NEEDED) {
                    break;
                }
                failed += isSolvedModulo(Table.GREAT_PRIMES[at]) ? 0 : 1;
            }
            return joiner.taken == Joiner.NEEDED;
        }

        private boolean isSolvedModulo(long prime) {
            int at = joiner.taken;
            if (at >= Joiner.NEEDED || prime < 2) {
                return false;
            }
            loadTable(prime);
            long lower = table.clearSquare(false);
            if (lower == 0) {
                return false;
            }
            residues[LOWER][at] = lower;
            for (int column = 0; column < columns; column++) {
                residues[column][at] = table.solved(column) * lower % prime;
            }
            joiner.take(prime);
            return true;
        }

        private void loadTable(long prime) {
            table.begin(rows, columns, prime);
            for (int row = 0; row < rows; row++) {
                for (int column = 0; column <= columns; column++) {
                    table.cells[row][column] = Table.reduce(given[row][column], prime);
                }
            }
        }

        private void multiplyByRows(Sheet sheet) {
            for (int at = 0; at < joiner.taken; at++) {
                for (int row = 0; row < rows; row++) {
                    scratch[row] = residues[row][at];
                }
                for (int column = 0; column < sheet.columns && column < MOST_EXACT; column++) {
                    long sum = 0;
                    for (int row = 0; row < rows; row++) {
                        sum += sheet.cells[row][column] * scratch[row];
                    }
                    residues[column][at] = Table.reduce(sum, joiner.moduli[at]);
                }
            }
        }

        /** Tells the numerator or the denominator of an answer in lowest terms. */
        void tellFraction(int row, boolean isUpper) {
            beginDivisor();
            joiner.restore(residues[row], used);
            divisor.becomeDivisor(used);
            tellQuotient(isUpper ? row : LOWER);
        }

        /** All signs are turned if that of the denominator must be. */
        private void beginDivisor() {
            joiner.restore(residues[LOWER], divisor);
            isTurned = divisor.isBelow;
        }

        /** The divisor divides the denominator, so that none of the primes divides it. */
        private void tellQuotient(int row) {
            for (int at = 0; at < joiner.taken; at++) {
                long prime = joiner.moduli[at];
                if (prime < 2) {
                    return;
                }
                long value = residues[row][at] * Table.invert(divisor.remainder(prime), prime) % prime;
                scratch[at] = isTurned && value != 0 ? prime - value : value;
            }
            joiner.restore(scratch, told);
        }

        /** Modulo a prime the rank can only be less, so that the greatest one is that of fractions. */
        int findRank(Sheet sheet) {
            int end = Math.min(sheet.rows, sheet.columns);
            int most = 0;
            for (int at = 0; at < RANK_PRIMES && most < end; at++) {
                table.load(sheet, Table.GREAT_PRIMES[at]);
                most = Math.max(most, table.findRank());
            }
            return most;
        }

        /** Answers with which factors the first column that is a sum of those ahead is one, if any is. */
        boolean solveDependence(Sheet sheet) {
            findDependent(sheet);
            if (dependent < 0 || dependent >= sheet.columns) {
                return false;
            }
            loadDependence(sheet);
            if (!solveGiven()) {
                return false;
            }
            findVectorDivisor();
            return true;
        }

        /** Modulo a prime a column can only be a sum of those ahead too early. */
        private void findDependent(Sheet sheet) {
            dependent = -1;
            for (int at = 0; at < RANK_PRIMES && dependent < sheet.columns; at++) {
                table.load(sheet, Table.GREAT_PRIMES[at]);
                table.findRank();
                if (table.independent > dependent) {
                    dependent = table.independent;
                    for (int row = 0; row < sheet.rows; row++) {
                        chosenRows[row] = table.sources[row];
                    }
                }
            }
        }

        /** As many rows as there are columns ahead, in which these are independent, are enough. */
        private void loadDependence(Sheet sheet) {
            setSize(dependent, dependent);
            for (int row = 0; row < rows; row++) {
                for (int column = 0; column < columns; column++) {
                    given[row][column] = sheet.cells[chosenRows[row]][column];
                }
                given[row][columns] = -sheet.cells[chosenRows[row]][columns];
            }
        }

        private void findVectorDivisor() {
            beginDivisor();
            for (int column = 0; column < columns; column++) {
                joiner.restore(residues[column], used);
                divisor.becomeDivisor(used);
            }
        }

        /** Tells a number of the vector behind solveDependence. */
        void tellOfVector(int column) {
            if (column > dependent) {
                told.clear();
            } else {
                tellQuotient(column == dependent ? LOWER : column);
            }
        }

        /**
         * Returns how many of the right side, the matrix times it, times that, and so on are
         * independent: conjugate steps end behind so many. Determinants of these are below 10^215,
         * so that one of the 24 primes is no divisor.
         */
        int countPowers(Sheet sheet) {
            int most = 0;
            for (int at = 0; at < Table.GREAT_PRIMES.length && most < sheet.rows; at++) {
                loadPowers(sheet, Table.GREAT_PRIMES[at]);
                most = Math.max(most, table.findRank());
            }
            return most;
        }

        private void loadPowers(Sheet sheet, long prime) {
            table.begin(sheet.rows, sheet.rows, prime);
            for (int column = 0; column < table.columns; column++) {
                table.cells[0][column] = Table.reduce(sheet.rights[column], prime);
            }
            for (int row = 1; row < table.rows; row++) {
                for (int column = 0; column < table.columns; column++) {
                    long sum = 0;
                    for (int between = 0; between < table.columns; between++) {
                        sum += sheet.cells[column][between] * table.cells[row - 1][between];
                    }
                    table.cells[row][column] = Table.reduce(sum, prime);
                }
            }
        }

        /** Returns whether all given rows hold exactly, without any prime. */
        boolean doRowsHold() {
            clearSums();
            for (int column = 0; column <= columns; column++) {
                joiner.restore(residues[column == columns ? LOWER : column], told);
                for (int row = 0; row < rows; row++) {
                    addToSum(row, column == columns ? -given[row][column] : given[row][column]);
                }
            }
            return areSumsNothing();
        }

        /** Returns the same for the columns times the vector behind solveDependence. */
        boolean isVectorTurnedIntoNothing(Sheet sheet) {
            clearSums();
            for (int column = 0; column < sheet.columns; column++) {
                tellOfVector(column);
                for (int row = 0; row < sheet.rows; row++) {
                    addToSum(row, sheet.cells[row][column]);
                }
            }
            return areSumsNothing();
        }

        private void clearSums() {
            for (int row = 0; row < MOST_EXACT; row++) {
                for (int at = 0; at < Amount.PARTS; at++) {
                    sums[row][at] = 0;
                }
            }
        }

        /** Factors are at most 10^7 and eleven are added, so that no part leaves a long. */
        private void addToSum(int row, long factor) {
            for (int at = 0; at < Amount.PARTS; at++) {
                sums[row][at] += (told.isBelow ? -factor : factor) * told.parts[at];
            }
        }

        private boolean areSumsNothing() {
            for (int row = 0; row < MOST_EXACT; row++) {
                long carry = 0;
                for (int at = 0; at < Amount.PARTS; at++) {
                    long value = sums[row][at] + carry;
                    if (value % Amount.BASE != 0) {
                        return false;
                    }
                    carry = value / Amount.BASE;
                }
                if (carry != 0) {
                    return false;
                }
            }
            return true;
        }

        /** Behind solving the plain equations: compares the determinant with that modulo a prime. */
        boolean agreesOnDeterminant(Sheet sheet, boolean isAnswered, long prime) {
            told.clear();
            if (isAnswered) {
                joiner.restore(residues[LOWER], told);
            }
            table.load(sheet, prime);
            return told.signedRemainder(prime) == table.clearSquare(false);
        }

        /** Behind solving the plain equations: compares answers with those modulo a prime, if any. */
        boolean agreesOnAnswers(Sheet sheet, long prime, boolean fromRight) {
            table.load(sheet, prime);
            if (prime < 2 || table.clearSquare(fromRight) == 0) {
                return true;
            }
            joiner.restore(residues[LOWER], told);
            long lower = told.signedRemainder(prime);
            for (int column = 0; column < columns; column++) {
                joiner.restore(residues[column], told);
                if (told.signedRemainder(prime) != table.solved(column) * lower % prime) {
                    return false;
                }
            }
            return true;
        }
    }

    /** The eigenvalues of a matrix that is its own transposed one, by its polynomial. */
    private static final class Spectrum {
        /** Ten entries of a row sum up to at most 9990, and no eigenvalue is beyond. */
        private static final int BEYOND = MOST_EXACT * MOST_ENTRY + 1;
        private static final int MOST_HALVINGS = 20;

        private int size = 0;
        private final Joiner joiner = new Joiner();
        private final long[][] power = new long[MOST_EXACT][MOST_EXACT];
        private final long[] line = new long[MOST_EXACT + 1];
        /** Of the factor of each power of the unknown, what it is modulo each prime. */
        private final long[][] polynomial = new long[MOST_EXACT + 1][Joiner.NEEDED];
        private final long[][] shifted = new long[MOST_EXACT + 1][Joiner.NEEDED];

        void load(Sheet sheet) {
            size = Math.min(sheet.rows, MOST_EXACT);
            joiner.taken = 0;
            for (int at = 0; at < Joiner.NEEDED; at++) {
                joiner.take(Table.GREAT_PRIMES[at]);
                findPolynomial(sheet, at, Table.GREAT_PRIMES[at]);
            }
        }

        /** Multiplies by the matrix again and again, and takes each factor from the diagonal's sum. */
        private void findPolynomial(Sheet sheet, int at, long prime) {
            if (prime < 2) {
                return;
            }
            for (int row = 0; row < size; row++) {
                for (int column = 0; column < size; column++) {
                    power[row][column] = row == column ? 1 : 0;
                }
            }
            polynomial[size][at] = 1;
            for (int step = 1; step <= size; step++) {
                long sum = multiplyPower(sheet, prime);
                long factor = (prime - sum) * Table.invert(step, prime) % prime;
                polynomial[size - step][at] = factor;
                for (int row = 0; row < size; row++) {
                    power[row][row] = (power[row][row] + factor) % prime;
                }
            }
        }

        private long multiplyPower(Sheet sheet, long prime) {
            long diagonal = 0;
            for (int column = 0; column < size; column++) {
                for (int row = 0; row < size; row++) {
                    long sum = 0;
                    for (int between = 0; between < size; between++) {
                        sum += sheet.cells[row][between] * power[between][column];
                    }
                    line[row] = Table.reduce(sum, prime);
                }
                for (int row = 0; row < size; row++) {
                    power[row][column] = line[row];
                }
                diagonal += line[column];
            }
            return Table.reduce(diagonal, prime);
        }

        /** Moves the polynomial so that its zeros are counted from a number on. */
        private void shift(int number) {
            for (int at = 0; at < Joiner.NEEDED; at++) {
                for (int degree = 0; degree <= size; degree++) {
                    line[degree] = polynomial[degree][at];
                }
                for (int round = 0; round < size; round++) {
                    for (int degree = size - 1; degree >= round; degree--) {
                        long value = line[degree] + number * line[degree + 1];
                        line[degree] = Table.reduce(value, joiner.moduli[at]);
                    }
                }
                for (int degree = 0; degree <= size; degree++) {
                    shifted[degree][at] = line[degree];
                }
            }
        }

        /** As all zeros are real, those above 0 are as many as the changes of sign. */
        int countAbove(int number) {
            shift(number);
            int changes = 0;
            int last = 0;
            for (int degree = 0; degree <= size; degree++) {
                int sign = joiner.signOf(shifted[degree]);
                changes += sign * last < 0 ? 1 : 0;
                last = sign == 0 ? last : sign;
            }
            return changes;
        }

        private int countFrom(int number) {
            int count = countAbove(number);
            for (int degree = 0; degree <= size; degree++) {
                if (joiner.signOf(shifted[degree]) != 0) {
                    return count + degree;
                }
            }
            return count;
        }

        /** Returns the greatest whole number that is at most an eigenvalue, by halving between two. */
        int wholePart(int index) {
            int holds = -BEYOND;
            int fails = BEYOND;
            for (int turn = 0; turn < MOST_HALVINGS && fails - holds > 1; turn++) {
                int middle = (holds + fails) / 2;
                if (countFrom(middle) > index) {
                    holds = middle;
                } else {
                    fails = middle;
                }
            }
            return holds;
        }
    }

    /** Patterns by levels, aggregates, and paths by other sums. */
    private static final class Patterns {
        private static final int NO_LEVEL = 1000;
        /** Far below each sum and each entry. */
        private static final int UNREACHED = -1000000;

        private final int[][] levels = new int[MOST_SIDE][MOST_SIDE];
        private final int[] gathered = new int[MOST_SIDE];
        private int size = 0;
        private final int[] values = new int[MOST_SIDE];
        private final long[] walked = new long[MOST_SIDE];
        private final long[] walkedOn = new long[MOST_SIDE];

        int countKept(Sheet sheet, int most) {
            size = sheet.rows;
            for (int row = 0; row < size; row++) {
                for (int column = 0; column < size; column++) {
                    boolean isThere = row == column || sheet.cells[row][column] != 0;
                    levels[row][column] = isThere ? 0 : NO_LEVEL;
                }
            }
            for (int index = 0; index < size; index++) {
                lowerLevels(index, most);
            }
            int count = 0;
            for (int row = 0; row < size; row++) {
                for (int column = 0; column < size; column++) {
                    count += levels[row][column] <= most ? 1 : 0;
                }
            }
            return count;
        }

        private void lowerLevels(int index, int most) {
            for (int row = index + 1; row < size; row++) {
                for (int column = index + 1; column < size; column++) {
                    if (levels[row][index] <= most && levels[index][column] <= most) {
                        int level = levels[row][index] + levels[index][column] + 1;
                        levels[row][column] = Math.min(levels[row][column], level);
                    }
                }
            }
        }

        /** Returns how many aggregates have an index below the lowest one of that of an index. */
        int aggregateOf(Graph graph, int index) {
            gather(graph);
            int met = 0;
            for (int other = 0; other < index; other++) {
                if (gathered[other] == gathered[index]) {
                    break;
                }
                met |= 1 << gathered[other];
            }
            return Integer.bitCount(met);
        }

        /** Finds for each index the one that made its aggregate. */
        private void gather(Graph graph) {
            int first = 0;
            for (int index = 0; index < graph.size; index++) {
                int some = graph.joined[index] | 1 << index;
                if ((some & first) == 0) {
                    gatherAll(some, index);
                    first |= some;
                }
            }
            for (int index = 0; index < graph.size; index++) {
                if ((first & 1 << index) == 0) {
                    int near = Graph.lowestOf(graph.joined[index] & first);
                    gathered[index] = near < 0 ? index : gathered[near];
                }
            }
        }

        private void gatherAll(int some, int maker) {
            for (int index = 0; index < MOST_SIDE; index++) {
                if ((some & 1 << index) != 0) {
                    gathered[index] = maker;
                }
            }
        }

        /** Finds the best paths to all indices; a best one has no more arcs than there are indices. */
        void follow(Sheet sheet, int from, char kind) {
            size = sheet.rows;
            for (int to = 0; to < size; to++) {
                int entry = sheet.cells[from][to];
                int first = kind == 'a' ? 1 : entry;
                values[to] = entry == 0 ? UNREACHED : first;
            }
            for (int round = 1; round < size; round++) {
                for (int over = 0; over < size; over++) {
                    followOn(sheet, over, kind);
                }
            }
        }

        private void followOn(Sheet sheet, int over, char kind) {
            for (int to = 0; to < size; to++) {
                int entry = sheet.cells[over][to];
                if (entry == 0 || values[over] == UNREACHED) {
                    continue;
                }
                int step = kind == 'a' ? 1 : entry;
                int value = kind == 'm' ? Math.min(values[over], entry) : values[over] + step;
                boolean isBetter = kind == 'm' ? value > values[to] : value < values[to];
                if (isBetter || values[to] == UNREACHED) {
                    values[to] = value;
                }
            }
        }

        boolean isReached(int to) {
            return values[to] != UNREACHED;
        }

        int valueAt(int to) {
            return values[to];
        }

        long countWalks(Sheet sheet, int from, int to, int arcs) {
            size = sheet.rows;
            for (int index = 0; index < size; index++) {
                walked[index] = index == from ? 1 : 0;
            }
            for (int arc = 0; arc < arcs; arc++) {
                walkOn(sheet);
            }
            return walked[to];
        }

        private void walkOn(Sheet sheet) {
            for (int to = 0; to < size; to++) {
                long sum = 0;
                for (int from = 0; from < size; from++) {
                    sum += sheet.cells[from][to] != 0 ? walked[from] : 0;
                }
                walkedOn[to] = sum;
            }
            for (int to = 0; to < size; to++) {
                walked[to] = walkedOn[to];
            }
        }
    }
}
