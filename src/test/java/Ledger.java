import java.io.IOException;
import java.nio.file.Files;
import java.nio.file.Path;
import java.util.ArrayList;
import java.util.List;
import java.util.NoSuchElementException;
import java.util.function.Function;
import java.util.function.Supplier;

/**
 * Keeps which sentences of the document were tested, and on which sides of their boundaries. Each
 * call that is tested has a hall of its own, which the maker of the moment makes, so that no hall
 * comes near its 512th call. A call that is refused must leave the hall as it was.
 */
final class Ledger {
    static final Class<? extends RuntimeException> INDEX = IndexOutOfBoundsException.class;
    static final Class<? extends RuntimeException> ARGUMENT = IllegalArgumentException.class;
    static final Class<? extends RuntimeException> STATE = IllegalStateException.class;
    static final Class<? extends RuntimeException> UNSUPPORTED = UnsupportedOperationException.class;
    static final Class<? extends RuntimeException> NO_ELEMENT = NoSuchElementException.class;
    static final Class<? extends RuntimeException> ARITHMETIC = ArithmeticException.class;

    private static final int MOST_CELLS_READ = 40;

    /** A sentence, under its heading, and how often each side of it was tested. */
    private static final class Entry {
        private final String heading;
        private final String words;
        private int taken = 0;
        private int refused = 0;

        Entry(String heading, String words) {
            this.heading = heading;
            this.words = words;
        }
    }

    private final List<Entry> entries = new ArrayList<>();
    private Entry current = null;
    private Supplier<SparseHall> maker = SparseHall::new;
    private int wrong = 0;
    private int checks = 0;

    /** Reads the sentences of the promises, or those ahead of them. */
    static Ledger of(Path document, boolean isOfPromises) throws IOException {
        Ledger ledger = new Ledger();
        String heading = "";
        for (String line : Files.readAllLines(document)) {
            if (line.startsWith("## ")) {
                heading = line.substring(3).replaceAll(":.*", "");
            } else if (isOfPromises && heading.startsWith("Promise") && !line.isEmpty()) {
                ledger.entries.add(new Entry(heading, line.replaceFirst("^`[^`]*`: ", "")));
            } else if (!isOfPromises && heading.matches("Terms|What it is") && !line.startsWith("Ahead of")) {
                for (String words : line.split("(?<=\\.) ")) {
                    ledger.entries.add(new Entry(heading, words));
                }
            }
        }
        ledger.entries.removeIf(entry -> entry.words.matches("|\\w+\\.|Exact numbers\\."));
        return ledger;
    }

    // ---- which sentence, and on which halls

    /** What follows tests the one sentence under a heading that begins so. */
    void sentence(String heading, String beginning) {
        current = null;
        for (Entry entry : entries) {
            if (entry.heading.equals(heading) && entry.words.startsWith(beginning)) {
                if (current != null) {
                    fail(heading + " has two sentences that begin with " + beginning);
                }
                current = entry;
            }
        }
        if (current == null) {
            fail(heading + " has no sentence that begins with " + beginning);
            current = new Entry(heading, beginning);
        }
        with(SparseHall::new);
    }

    void with(Supplier<SparseHall> newMaker) {
        maker = newMaker;
    }

    // ---- both sides

    /** The call answers, whatever it is. */
    void answers(Function<SparseHall, Object> call) {
        checks++;
        current.taken++;
        Object got = outcome(call, maker.get());
        if (got instanceof Class) {
            fail(current.heading + ", " + line() + ": answered " + got + ", due is an answer; " + current.words);
        }
    }

    void taken(Object due, Function<SparseHall, Object> call) {
        checks++;
        current.taken++;
        Object got = outcome(call, maker.get());
        if (!due.equals(got)) {
            fail(current.heading + ", " + line() + ": answered " + got + ", due is " + due + "; " + current.words);
        }
    }

    void refused(Class<? extends RuntimeException> due, Function<SparseHall, Object> call) {
        checks++;
        current.refused++;
        SparseHall hall = maker.get();
        String before = stateOf(hall);
        Object got = outcome(call, hall);
        if (!due.equals(got)) {
            fail(current.heading + ", " + line() + ": answered " + got + ", due is " + due + "; " + current.words);
        }
        String after = stateOf(hall);
        if (!before.equals(after)) {
            fail(current.heading + ", " + line() + ": a refused call changed " + before + " to " + after);
        }
    }

    /** What the machine throws by itself bears a message, and what the class throws bears none. */
    private static Object outcome(Function<SparseHall, Object> call, SparseHall hall) {
        try {
            return call.apply(hall);
        } catch (RuntimeException thrown) {
            return thrown.getMessage() == null ? thrown.getClass() : thrown.toString();
        }
    }

    private static boolean isAnswered(Function<SparseHall, Object> call, SparseHall hall) {
        return !(outcome(call, hall) instanceof Class);
    }

    /** Sizes, entries, right sides and orders; of great matrices only some of the entries. */
    private static String stateOf(SparseHall hall) {
        StringBuilder state = new StringBuilder();
        for (int m = 0; m < 8; m++) {
            int number = m;
            int rows = 0;
            int columns = 0;
            while (rows < 20 && isAnswered(new Probe(number, rows, 0), hall)) {
                rows++;
            }
            while (columns < 20 && isAnswered(new Probe(number, 0, columns), hall)) {
                columns++;
            }
            if (rows == 0) {
                continue;
            }
            state.append(" / ").append(m).append(": ").append(rows).append('x').append(columns);
            state.append(" of ").append(hall.entries(m));
            for (int i = 0; i < rows; i++) {
                for (int j = 0; j < columns; j++) {
                    if (rows * columns <= MOST_CELLS_READ || i == j) {
                        state.append(' ').append(hall.entry(m, i, j));
                    }
                }
                int right = hall.right(m, i, 0);
                hall.right(m, i, right);
                state.append(" = ").append(right);
                state.append(rows == columns ? " at " + hall.ordered(m, i) : "");
            }
        }
        return state.toString();
    }

    /** Reads an entry. */
    private static final class Probe implements Function<SparseHall, Object> {
        private final int matrix;
        private final int row;
        private final int column;

        Probe(int matrix, int row, int column) {
            this.matrix = matrix;
            this.row = row;
            this.column = column;
        }

        @Override
        public Object apply(SparseHall hall) {
            return hall.entry(matrix, row, column);
        }
    }

    // ---- what comes out

    private static String line() {
        for (StackTraceElement at : new Throwable().getStackTrace()) {
            if (at.getClassName().endsWith("Test") && !at.getMethodName().startsWith("lambda")) {
                return at.getMethodName() + " line " + at.getLineNumber();
            }
        }
        return "somewhere";
    }

    private void fail(String what) {
        wrong++;
        System.out.println(what);
    }

    /** Whether a sentence tells a limit: what is thrown, numbers, signs, or what is so in no case. */
    private static boolean namesBoundary(Entry entry) {
        return entry.heading.equals("Terms")
                || entry.words.matches(".*(Throws|[0-9]|'.'|the same|none|either|back to itself|Creates).*")
                || entry.words.startsWith("Returns whether, for all");
    }

    /** Fails for each sentence with a boundary that was not tested on the sides that it has. */
    void close(String name) {
        int sentences = 0;
        for (Entry entry : entries) {
            if (namesBoundary(entry)) {
                sentences++;
                boolean isThrown = entry.words.startsWith("Throws");
                if (entry.taken == 0 || (isThrown && entry.refused == 0)) {
                    fail(entry.heading + ": no test for: " + entry.words);
                }
            }
        }
        System.out.println(name + ": " + sentences + " sentences, " + checks + " checks, " + wrong + " wrong");
        System.exit(wrong == 0 ? 0 : 1);
    }
}
