import java.io.IOException;
import java.math.BigInteger;
import java.nio.file.Path;
import java.util.List;
import java.util.function.Function;

/** Each sentence under "Terms": what is so on both sides of the boundary that it names. */
public final class TermsTest {
    private static Ledger ledger;

    public static void main(String[] args) throws IOException {
        Path root = Path.of(args.length > 0 ? args[0] : ".");
        ledger = Ledger.of(root.resolve("../shared/DOC.md"), false);
        calls();
        matrices();
        matchings();
        orders();
        separators();
        elimination();
        work();
        exactNumbers();
        vectors();
        leastAnswers();
        eigenvalues();
        patterns();
        throwing();
        firstOfSeveral();
        ledger.close("TermsTest");
    }

    private static void sentence(String beginning) {
        ledger.sentence("Terms", beginning);
    }

    /** What the order of a kind is, in a hall with one matrix. */
    private static Function<SparseHall, Object> told(char kind, int size) {
        return x -> {
            int first = x.order(0, kind);
            String order = Halls.orderOf(x, 0, size);
            return order.startsWith(first + "") ? order : first + " and not " + order;
        };
    }

    private static void calls() {
        ledger.sentence("What it is", "An object is used for at most 512 calls");
        ledger.with(Halls.told("2 1 / 1 2 | 3 0"));
        ledger.taken("3 2 3 true", x -> {
            // seven calls made the hall, and five come behind these: the last one is the 512th
            for (int call = 7; call < 507; call++) {
                x.set(0, 0, 1, call % 7);
            }
            x.set(0, 0, 1, 1);
            return x.determinant(0) + " " + x.answer(0, 's', 0, true) + " " + x.matrix(1, 1) * 3 + " " + x.isSound();
        });
    }

    // ---- matrices

    private static void matrices() {
        sentence("At most 6 matrices have numbers from 0 on");
        for (int rows = 1; rows <= 16; rows++) {
            int height = rows;
            int width = 17 - rows;
            ledger.with(() -> Halls.blank(height, width));
            ledger.taken(0, x -> x.entries(0));
            ledger.taken(0, x -> x.entry(0, height - 1, width - 1));
            ledger.taken(0, x -> x.right(0, height - 1, -5));
            ledger.refused(Ledger.INDEX, x -> x.entry(0, height, width - 1));
            ledger.refused(Ledger.INDEX, x -> x.entry(0, height - 1, width));
            ledger.refused(Ledger.INDEX, x -> x.right(0, height, 0));
        }
        ledger.with(SparseHall::new);
        ledger.refused(Ledger.ARGUMENT, x -> x.matrix(17, 16));
        ledger.refused(Ledger.ARGUMENT, x -> x.matrix(16, 17));
        ledger.refused(Ledger.ARGUMENT, x -> x.matrix(0, 16));
        ledger.refused(Ledger.ARGUMENT, x -> x.matrix(16, 0));
        ledger.taken(5, x -> {
            int last = -1;
            for (int number = 0; number < 6; number++) {
                last = x.matrix(16, 16);
            }
            return last;
        });
        // three ways to the sixth one, and none to a seventh one
        ledger.with(Halls.told("1 | 9", "1", "1", "1", "1 | 7"));
        ledger.taken(5, x -> x.matrix(1, 1));
        ledger.taken(5, x -> x.transpose(4));
        ledger.taken(5, x -> x.multiply(4, 0));
        ledger.taken(0, x -> x.right(x.transpose(4), 0, 1));
        ledger.taken(0, x -> x.right(x.multiply(4, 0), 0, 1));
        ledger.with(Halls.told("1", "1", "1", "1", "1", "1"));
        ledger.refused(Ledger.STATE, x -> x.matrix(1, 1));
        ledger.refused(Ledger.STATE, x -> x.transpose(5));
        ledger.refused(Ledger.STATE, x -> x.multiply(5, 5));
        sentence("Rows and columns have indices from 0 on");
        ledger.with(Halls.told("1 2 3 4 5 / 6 7 8 9 10"));
        ledger.taken(1, x -> x.entry(0, 0, 0));
        ledger.taken(10, x -> x.entry(0, 1, 4));
        ledger.refused(Ledger.INDEX, x -> x.entry(0, 2, 4));
        ledger.refused(Ledger.INDEX, x -> x.entry(0, 1, 5));
        for (int index : new int[] {-1, 2, 4, 5}) {
            ledger.refused(Ledger.INDEX, x -> x.parent(0, index));
            ledger.refused(Ledger.INDEX, x -> x.countOf(0, index));
            ledger.refused(Ledger.INDEX, x -> x.path(0, index));
            ledger.refused(Ledger.INDEX, x -> x.aggregate(0, index));
            ledger.refused(Ledger.INDEX, x -> x.best(0, index, 0, 'a'));
            ledger.refused(Ledger.INDEX, x -> x.best(0, 0, index, 'a'));
            ledger.refused(Ledger.INDEX, x -> x.walks(0, index, 0, 1));
            ledger.refused(Ledger.INDEX, x -> x.walks(0, 0, index, 1));
            ledger.refused(Ledger.INDEX, x -> x.floor(0, index));
        }
        ledger.refused(Ledger.UNSUPPORTED, x -> x.parent(0, 1));
        sentence("An index is joined with another one");
        String[] joined = {"0 1 / 0 0", "0 0 / 1 0", "0 5 / -5 0", "0 -999 / 0 0"};
        for (String matrix : joined) {
            ledger.with(Halls.told(matrix));
            ledger.taken(1, x -> x.width(0));
            ledger.taken(1, x -> x.partsOf(0));
            ledger.taken(2, x -> x.countOf(0, 0));
            ledger.taken(0, x -> x.aggregate(0, 1));
        }
        for (String matrix : new String[] {"0 0 / 0 0", "7 0 / 0 7"}) {
            ledger.with(Halls.told(matrix));
            ledger.taken(0, x -> x.width(0));
            ledger.taken(2, x -> x.partsOf(0));
            ledger.taken(1, x -> x.countOf(0, 0));
            ledger.taken(1, x -> x.aggregate(0, 1));
        }
    }

    // ---- matchings

    private static void matchings() {
        sentence("A matching is a set of entries that are not 0");
        ledger.with(Halls.told("1 1 1 / 0 0 0 / 0 0 0"));
        ledger.taken(1, x -> x.matched(0));
        ledger.with(Halls.told("1 0 0 / 1 0 0 / 1 0 0"));
        ledger.taken(1, x -> x.matched(0));
        ledger.with(Halls.told("1 1 0 / 1 0 0 / 0 0 0"));
        ledger.taken(2, x -> x.matched(0));
        ledger.with(Halls.told("0 1 0 / 1 0 0 / 0 0 -1"));
        ledger.taken(3, x -> x.matched(0));
        // a greatest matching may need the least entry, though others of it are greater
        ledger.with(Halls.told("9 8 / 7 0"));
        ledger.taken(7, x -> x.least(0));
        ledger.with(Halls.told("9 8 / 7 -8"));
        ledger.taken(8, x -> x.least(0));
        sentence("A square matrix with a matching in all rows parts into blocks");
        ledger.with(Halls.told("1 1 / 0 1"));
        ledger.taken(2, x -> x.blocks(0));
        ledger.taken(1, x -> x.blockOf(0, 0));
        ledger.with(Halls.told("1 1 / 1 1"));
        ledger.taken(1, x -> x.blocks(0));
        ledger.taken(2, x -> x.blockOf(0, 1));
        ledger.with(Halls.told("0 1 / 1 0"));
        ledger.taken(2, x -> x.blocks(0));
        ledger.with(Halls.told("0 1 / 1 1"));
        ledger.taken(2, x -> x.blocks(0));
        ledger.with(() -> {
            SparseHall hall = Halls.blank(16, 16);
            for (int i = 0; i < 16; i++) {
                hall.set(0, i, (i + 3) % 16, 1);
                hall.set(0, i, (i + 4) % 16, 1);
            }
            return hall;
        });
        ledger.taken(1, x -> x.blocks(0));
        ledger.taken(16, x -> x.blockOf(0, 9));
        ledger.taken(16, x -> x.set(0, 9, 13, 0) - 1 + x.blocks(0));
        ledger.with(Halls.told("1 1 / 0 0"));
        ledger.refused(Ledger.UNSUPPORTED, x -> x.blocks(0));
        ledger.refused(Ledger.UNSUPPORTED, x -> x.blockOf(0, 0));
        ledger.with(Halls.told("1 0 0 / 0 1 0"));
        ledger.refused(Ledger.UNSUPPORTED, x -> x.blocks(0));
    }

    // ---- orders

    private static void orders() {
        sentence("A square matrix has an order of its indices");
        ledger.with(() -> Halls.joined(5, 0, 1, 0, 2, 0, 3, 0, 4));
        ledger.taken("0 1 2 3 4", x -> Halls.orderOf(x, 0, 5));
        String star = "4 3 2 0 1";
        ledger.taken(star, told('w', 5));
        ledger.taken(star, x -> {
            x.order(0, 'w');
            x.set(0, 0, 1, 0);
            x.set(0, 1, 0, 0);
            x.set(0, 4, 3, 7);
            x.right(0, 3, 5);
            return Halls.orderOf(x, 0, 5);
        });
        ledger.taken(star, x -> {
            x.order(0, 'w');
            x.exchange(0, true, 0, 4);
            x.exchange(0, false, 1, 3);
            return Halls.orderOf(x, 0, 5);
        });
        ledger.taken(star + " 0 1 2 3 4 0 1 2 3 4", x -> {
            x.order(0, 'w');
            x.transpose(0);
            x.set(0, 1, 0, 0);
            x.multiply(0, 1);
            return Halls.orderOf(x, 0, 5) + " " + Halls.orderOf(x, 1, 5) + " " + Halls.orderOf(x, 2, 5);
        });
        ledger.taken("3 0 -1 0 3", x -> {
            x.order(0, 'w');
            x.set(0, 4, 3, 1);
            return x.parent(0, 4) + " " + x.parent(0, 3) + " " + x.parent(0, 1) + " " + x.parent(0, 2) + " " + x.width(0);
        });
        ledger.taken("0 1 2 3 4", x -> {
            x.order(0, 'w');
            x.order(0, 'n');
            return Halls.orderOf(x, 0, 5);
        });
        sentence("'n' is that by numbers.");
        ledger.taken("0", x -> {
            x.matrix(1, 1);
            return told('n', 1).apply(x);
        });
        ledger.with(() -> Halls.joined(16, 15, 3, 4, 9));
        ledger.taken("0 1 2 3 4 5 6 7 8 9 10 11 12 13 14 15", told('n', 16));
        sentence("'d' takes, again and again");
        ledger.with(() -> Halls.eye(4, 4));
        ledger.taken("0 1 2 3", told('d', 4));
        ledger.with(() -> Halls.joined(4, 0, 1, 0, 2, 0, 3));
        ledger.taken("1 2 0 3", told('d', 4));
        // behind 0, the others of a ring are a ring of one less: each has two, till the end
        ledger.with(() -> Halls.joined(5, 0, 1, 1, 2, 2, 3, 3, 4, 4, 0));
        ledger.taken("0 1 2 3 4", told('d', 5));
        // those left count, and not those taken: behind 5 and 4, 3 has one left and goes ahead of 0
        ledger.with(() -> Halls.joined(6, 5, 4, 4, 3, 3, 0, 0, 1, 0, 2, 1, 2));
        ledger.taken("5 4 3 0 1 2", told('d', 6));
        sentence("'w' begins with the index that is joined with the fewest");
        ledger.with(() -> Halls.eye(4, 4));
        ledger.taken("3 2 1 0", told('w', 4));
        ledger.with(Halls.told("5"));
        ledger.taken("0", told('w', 1));
        ledger.with(() -> Halls.joined(4, 0, 1, 0, 2, 0, 3));
        ledger.taken("3 2 0 1", told('w', 4));
        // 2, the lowest of those joined with one, and 0; then 3, joined with one, ahead of 1, with two
        ledger.with(() -> Halls.joined(5, 3, 0, 0, 1, 0, 2, 1, 4));
        ledger.taken("4 1 3 0 2", told('w', 5));
        // those taken count, too: beside 1, 4 has two, and 3 three, of which 2 is taken, like 1
        ledger.with(() -> Halls.joined(9, 0, 1, 0, 2, 1, 3, 1, 4, 2, 3, 2, 7, 2, 8, 7, 8, 3, 5, 4, 6, 5, 6));
        ledger.taken("5 6 8 7 3 4 2 1 0", told('w', 9));
        // anew with the fewest of those left, and not with the lowest one
        ledger.with(() -> Halls.joined(5, 0, 1, 1, 2, 0, 2, 3, 4));
        ledger.taken("2 1 0 4 3", told('w', 5));
        ledger.with(() -> Halls.joined(5, 0, 2, 0, 3, 1, 4));
        ledger.taken("3 0 2 4 1", told('w', 5));
    }

    private static void separators() {
        sentence("'s' orders a set of indices so");
        // at most 3 by their numbers, be they joined or not; 4 by levels, or by parts
        ledger.with(Halls.told("0"));
        ledger.taken("0", told('s', 1));
        ledger.with(() -> Halls.way(3));
        ledger.taken("0 1 2", told('s', 3));
        ledger.with(() -> Halls.joined(3, 0, 2));
        ledger.taken("0 1 2", told('s', 3));
        ledger.with(() -> Halls.way(4));
        ledger.taken("0 2 3 1", told('s', 4));
        ledger.with(() -> Halls.joined(4, 0, 2, 1, 3));
        ledger.taken("0 2 1 3", told('s', 4));
        ledger.with(() -> Halls.joined(4, 0, 3));
        ledger.taken("0 3 1 2", told('s', 4));
        ledger.with(() -> Halls.eye(16, 16));
        ledger.taken("0 1 2 3 4 5 6 7 8 9 10 11 12 13 14 15", told('s', 16));
        // the part with the lowest index first; one of 4 in it by levels, one of 3 by numbers
        ledger.with(() -> Halls.joined(7, 0, 2, 2, 4, 4, 6, 1, 3, 3, 5));
        ledger.taken("0 4 6 2 1 3 5", told('s', 7));
        // half of a set of 5 is reached with 3, half of one of 6 with 3, half of one of 7 with 4
        ledger.with(() -> Halls.way(5));
        ledger.taken("0 1 3 4 2", told('s', 5));
        ledger.with(() -> Halls.way(6));
        ledger.taken("0 1 3 4 5 2", told('s', 6));
        ledger.with(() -> Halls.way(7));
        ledger.taken("0 1 2 4 5 6 3", told('s', 7));
        ledger.with(() -> Halls.way(8));
        ledger.taken("0 1 2 4 6 7 5 3", told('s', 8));
        // levels of 1, 2 and 3 of six: the second one reaches half; of 1, 2 and 4 it does not
        ledger.with(() -> Halls.joined(6, 5, 3, 5, 4, 0, 1, 0, 2, 1, 2, 3, 0, 3, 1, 4, 2, 4, 1));
        ledger.taken("5 0 1 2 3 4", told('s', 6));
        ledger.with(() -> Halls.joined(7, 6, 5, 6, 4, 0, 1, 0, 2, 0, 3, 1, 2, 1, 3, 2, 3, 4, 0, 4, 1, 5, 2, 5, 3));
        ledger.taken("0 1 2 3 4 5 6", told('s', 7));
        // no higher ones: all are joined with each other; one level more, and there are some
        ledger.with(() -> Halls.filled(4, 4, 1));
        ledger.taken("0 1 2 3", told('s', 4));
        ledger.with(() -> Halls.joined(4, 3, 2, 2, 0, 2, 1, 0, 1));
        ledger.taken("3 0 1 2", told('s', 4));
        // the fewest in the set: of 8 to 15, 8 is joined with one, as 15 is, though also with 7 behind them
        ledger.with(() -> Halls.way(16));
        ledger.taken("0 1 2 4 5 6 3 8 9 10 12 14 15 13 11 7", told('s', 16));
        // 3 and 4 part nine; of the lower ones, a star round 7, 5 is the lowest that is joined with one
        ledger.with(() -> Halls.joined(9, 0, 1, 0, 2, 1, 3, 2, 4, 3, 5, 4, 6, 5, 7, 6, 7, 7, 8));
        ledger.taken("5 6 8 7 0 1 2 3 4", told('s', 9));
    }

    // ---- elimination and work

    private static void elimination() {
        sentence("Indices are eliminated in the order");
        ledger.with(() -> Halls.joined(4, 0, 1, 0, 2, 3, 0));
        ledger.taken(3, x -> x.countOf(0, 1));
        ledger.taken(1, x -> x.order(0, 'd') * x.countOf(0, 3));
        ledger.with(() -> Halls.joined(4, 3, 1, 3, 2, 3, 0));
        ledger.taken(2, x -> x.countOf(0, 1));
        sentence("The count of an index is 1");
        ledger.with(Halls.told("0"));
        ledger.taken(1, x -> x.countOf(0, 0));
        ledger.taken(-1, x -> x.parent(0, 0));
        ledger.with(() -> Halls.joined(4, 0, 3, 0, 2));
        ledger.taken(3, x -> x.countOf(0, 0));
        ledger.taken(2, x -> x.parent(0, 0));
        ledger.taken(3, x -> x.parent(0, 2));
        ledger.taken(1, x -> x.countOf(0, 1));
        ledger.taken(-1, x -> x.parent(0, 1));
        // in the order 3 2 0 1, the first one of those joined with 2 is 0
        ledger.with(() -> Halls.joined(4, 0, 1, 0, 2, 0, 3));
        ledger.taken("0 0 1 -1", x -> {
            x.order(0, 'w');
            return x.parent(0, 3) + " " + x.parent(0, 2) + " " + x.parent(0, 0) + " " + x.parent(0, 1);
        });
        sentence("The fill is the number of pairs");
        ledger.with(() -> Halls.joined(3, 0, 1, 0, 2));
        ledger.taken(1, x -> x.fill(0));
        ledger.with(() -> Halls.joined(3, 0, 1, 0, 2, 1, 2));
        ledger.taken(0, x -> x.fill(0));
        ledger.with(Halls.told("0 1 1 / 0 0 0 / 0 1 0"));
        ledger.taken(0, x -> x.fill(0));
        sentence("An index begins a supernode");
        ledger.with(() -> Halls.joined(3, 0, 1, 0, 2));
        ledger.taken(1, x -> x.supernodes(0));
        // the one ahead has another parent
        ledger.with(() -> Halls.joined(4, 0, 2, 1, 3));
        ledger.taken(4, x -> x.supernodes(0));
        // 2 has two children: 1, ahead of it, has a count that is 1 more, and is not the only one
        ledger.with(() -> Halls.joined(4, 0, 2, 1, 2, 1, 3, 0, 3));
        ledger.taken(3, x -> x.supernodes(0));
        // the count of the one ahead is as great, and not 1 more
        ledger.with(() -> Halls.joined(3, 0, 1, 1, 2));
        ledger.taken(2, x -> x.supernodes(0));
        ledger.with(Halls.told("0"));
        ledger.taken(1, x -> x.supernodes(0));
        sentence("The memory of an index");
        ledger.with(Halls.told("0"));
        ledger.taken(1, x -> x.memory(0));
        ledger.with(() -> Halls.way(2));
        ledger.taken(4, x -> x.memory(0));
        ledger.with(() -> Halls.filled(3, 3, 1));
        ledger.taken(9, x -> x.memory(0));
        ledger.with(() -> Halls.filled(4, 4, 1));
        ledger.taken(18, x -> x.memory(0));
        // each child hands 1 on: with the third one, 4 beside 2 is more than 3 and the front of 1
        ledger.with(() -> Halls.joined(4, 0, 3, 1, 3, 2, 3));
        ledger.taken(6, x -> x.memory(0));
        ledger.with(() -> Halls.joined(7, 0, 6, 1, 6, 2, 6, 3, 6, 4, 6, 5, 6));
        ledger.taken(9, x -> x.memory(0));
        // the child with 9 goes ahead of that with 4, whatever their numbers: 9 beside 1 would be 10
        ledger.with(() -> Halls.joined(5, 0, 1, 0, 2, 1, 2, 2, 4, 3, 4));
        ledger.taken(9, x -> x.memory(0));
        ledger.with(() -> Halls.joined(5, 1, 2, 1, 3, 2, 3, 3, 4, 0, 4));
        ledger.taken(9, x -> x.memory(0));
        sentence("That of a matrix is the most of those without parents.");
        ledger.with(() -> Halls.joined(5, 0, 1, 2, 3, 2, 4, 3, 4));
        ledger.taken(9, x -> x.memory(0));
        ledger.with(() -> Halls.joined(5, 3, 4, 0, 1, 0, 2, 1, 2));
        ledger.taken(9, x -> x.memory(0));
    }

    private static void work() {
        sentence("Each index takes the square of its count");
        ledger.with(() -> Halls.way(2));
        ledger.taken(5, x -> x.work(0, 1));
        ledger.taken(5, x -> x.work(0, 4));
        ledger.with(() -> Halls.joined(4, 0, 3, 1, 3, 2, 3));
        ledger.taken(13, x -> x.work(0, 1));
        ledger.taken(9, x -> x.work(0, 2));
        ledger.taken(5, x -> x.work(0, 3));
        sentence("Whenever a processor is free");
        ledger.with(() -> Halls.eye(5, 5));
        ledger.taken(5, x -> x.work(0, 1));
        ledger.taken(3, x -> x.work(0, 2));
        ledger.taken(2, x -> x.work(0, 3));
        ledger.taken(2, x -> x.work(0, 4));
        // the way 3 4 5 has 9 ticks, and is begun ahead of 0, 1 and 2, which go beside it
        ledger.with(() -> Halls.joined(6, 3, 4, 4, 5));
        ledger.taken(9, x -> x.work(0, 2));
        // 0 and 3 sum up to 18: 0 goes first and ends at 27, though with 3 all would end at 23
        ledger.with(() -> Halls.joined(7, 0, 1, 0, 5, 1, 5, 2, 4, 2, 6, 3, 4, 4, 6, 4, 5));
        ledger.taken(27, x -> x.work(0, 2));
        ledger.taken(40, x -> x.work(0, 1));
        // 2 has 14, 0 and 1 have 13 each: by counts and not by their squares, 2 would be the last one
        ledger.with(() -> Halls.joined(6, 0, 3, 1, 3, 2, 4, 2, 5, 3, 4, 4, 5));
        ledger.taken(17, x -> x.work(0, 2));
        // 6 has 14, up to 8, the last one of the order, and goes ahead of 0 with 13
        ledger.with(() -> Halls.joined(9, 0, 3, 2, 3, 2, 4, 3, 4, 4, 5, 6, 7, 6, 8));
        ledger.taken(22, x -> x.work(0, 2));
        // two ways of two beside each other
        ledger.with(() -> Halls.joined(4, 0, 1, 2, 3));
        ledger.taken(5, x -> x.work(0, 2));
        ledger.taken(10, x -> x.work(0, 1));
    }

    // ---- exact numbers

    private static void exactNumbers() {
        sentence("Answers are fractions in lowest terms");
        ledger.with(Halls.told("6 | 4"));
        ledger.taken(2L, x -> x.answer(0, 's', 0, true));
        ledger.taken(3L, x -> x.answer(0, 's', 0, false));
        ledger.taken(1L, x -> x.inverse(0, 0, 0, true));
        ledger.taken(6L, x -> x.inverse(0, 0, 0, false));
        ledger.with(Halls.told("-6 | 4"));
        ledger.taken(-2L, x -> x.answer(0, 's', 0, true));
        ledger.taken(3L, x -> x.answer(0, 's', 0, false));
        ledger.taken(-1L, x -> x.inverse(0, 0, 0, true));
        ledger.taken(6L, x -> x.inverse(0, 0, 0, false));
        for (String zero : new String[] {"-6 | 0", "999 | 0"}) {
            ledger.with(Halls.told(zero));
            for (char way : "sln".toCharArray()) {
                ledger.taken(0L, x -> x.answer(0, way, 0, true));
                ledger.taken(1L, x -> x.answer(0, way, 0, false));
            }
        }
        for (char way : "sln".toCharArray()) {
            // determinants of 999^10 and 999^20 on the way, and answers of 1
            ledger.with(() -> {
                SparseHall hall = Halls.diagonal(999, 999, 999, 999, 999, 999, 999, 999, 999, -999);
                for (int i = 0; i < 10; i++) {
                    hall.right(0, i, 999);
                }
                return hall;
            });
            ledger.taken(1L, x -> x.answer(0, way, 0, true));
            ledger.taken(-1L, x -> x.answer(0, way, 9, true));
            ledger.taken(1L, x -> x.answer(0, way, 9, false));
            ledger.with(() -> {
                SparseHall hall = Halls.greatest();
                hall.right(0, 9, 999);
                return hall;
            });
            ledger.taken(true, x -> Math.abs(x.answer(0, way, 0, true)) <= 9 && x.answer(0, way, 0, false) <= 90);
        }
        // a determinant that the first great primes divide, each of them a good one to reckon with
        BigInteger three = BigInteger.valueOf(2147483647L).multiply(BigInteger.valueOf(2147483629L))
                .multiply(BigInteger.valueOf(2147483587L));
        for (BigInteger number : new BigInteger[] {three, three.negate()}) {
            ledger.with(() -> {
                SparseHall hall = Halls.withDeterminant(number, 10);
                hall.right(0, 9, 1);
                return hall;
            });
            ledger.taken("10 28 true", x -> x.rank(0) + " " + x.digits(0) + " " + x.isSound());
            ledger.taken(number.mod(BigInteger.valueOf(991)).intValue(), x -> x.modulo(0, 991));
            ledger.refused(Ledger.ARITHMETIC, x -> x.determinant(0));
            ledger.refused(Ledger.ARITHMETIC, x -> x.answer(0, 's', 0, false));
            ledger.refused(Ledger.ARITHMETIC, x -> x.answer(0, 'l', 0, false));
            ledger.refused(Ledger.NO_ELEMENT, x -> x.vector(0, 9));
        }
        sentence("All that is exact is for at most 10 rows and columns.");
        ledger.with(() -> Halls.eye(10, 10));
        for (Function<SparseHall, Object> call : exactCalls()) {
            ledger.answers(call);
        }
        for (int size = 11; size <= 16; size++) {
            int side = size;
            ledger.with(() -> Halls.eye(side, side));
            for (Function<SparseHall, Object> call : exactCalls()) {
                ledger.refused(Ledger.UNSUPPORTED, call);
            }
            ledger.refused(Ledger.UNSUPPORTED, x -> x.vector(0, 0));
        }
        ledger.with(() -> Halls.blank(10, 10));
        ledger.answers(x -> x.vector(0, 0));
        sentence("The rank is that of the rows.");
        for (int rows = 1; rows <= 10; rows++) {
            int height = rows;
            for (int columns : new int[] {1, 2, 10}) {
                ledger.with(() -> Halls.eye(height, columns));
                ledger.taken(Math.min(rows, columns), x -> x.rank(0));
                ledger.with(() -> Halls.filled(height, columns, -999));
                ledger.taken(1, x -> x.rank(0));
                ledger.with(() -> Halls.blank(height, columns));
                ledger.taken(0, x -> x.rank(0));
            }
        }
        ledger.with(Halls.told("1 2 3 / 4 5 6 / 5 7 9"));
        ledger.taken(2, x -> x.rank(0));
        ledger.with(Halls.told("1 2 3 / 4 5 6 / 5 7 10"));
        ledger.taken(3, x -> x.rank(0));
    }

    private static List<Function<SparseHall, Object>> exactCalls() {
        return List.of(x -> x.determinant(0), x -> x.digits(0), x -> x.rank(0), x -> x.answer(0, 's', 0, true),
                x -> x.answer(0, 'l', 0, true), x -> x.answer(0, 'n', 0, true), x -> x.inverse(0, 0, 0, true),
                x -> x.above(0, 0), x -> x.floor(0, 0), x -> x.steps(0));
    }

    /** All numbers of the vector of a hall's first matrix. */
    private static Function<SparseHall, Object> vector(int columns) {
        return x -> {
            StringBuilder numbers = new StringBuilder();
            for (int column = 0; column < columns; column++) {
                numbers.append(column > 0 ? " " : "").append(x.vector(0, column));
            }
            return numbers.toString();
        };
    }

    private static void vectors() {
        sentence("The vector of a matrix whose rank is less");
        String[][] all = {
            // the first column of zeros, alone, first, in the middle, last
            {"0", "1"}, {"0 0 / 0 0", "1 0"}, {"0 1 / 0 2", "1 0"}, {"1 0 2 / 3 0 5", "0 1 0"}, {"1 2 0 / 3 5 0", "0 0 1"},
            // the first one of several that are sums
            {"1 1 1", "-1 1 0"}, {"1 2 4 / 1 2 4", "-2 1 0"}, {"1 0 1 1 / 0 1 1 2", "-1 -1 1 0"}, {"3 5", "-5 3"},
            // no common divisor, and above 0
            {"4 6 / 4 6", "-3 2"}, {"-4 6", "3 2"}, {"-4 -6", "-3 2"}, {"6 10 15", "-5 3 0"}, {"2 0 3 / 0 3 2", "-9 -4 6"},
            {"999 998", "-998 999"}, {"999 -999", "1 1"}, {"1 999", "-999 1"}, {"0 5 0", "1 0 0"}};
        for (String[] one : all) {
            ledger.with(Halls.told(one[0]));
            ledger.taken(one[1], vector(one[1].split(" ").length));
        }
        for (String full : new String[] {"1", "1 0 / 0 1", "1 2 / 3 4", "1 / 0", "1 2 / 2 4 / 1 1"}) {
            ledger.with(Halls.told(full));
            ledger.refused(Ledger.NO_ELEMENT, x -> x.vector(0, 0));
        }
    }

    private static void leastAnswers() {
        sentence("Least squares: the fractions");
        ledger.with(Halls.told("1 / 1 | 0 1"));
        ledger.taken("1/2", x -> x.answer(0, 'l', 0, true) + "/" + x.answer(0, 'l', 0, false));
        ledger.with(Halls.told("1 0 / 0 1 / 1 1 | 1 1 5"));
        ledger.taken("2/1", x -> x.answer(0, 'l', 0, true) + "/" + x.answer(0, 'l', 1, false));
        ledger.with(Halls.told("0 / 7 | 9 1"));
        ledger.taken("1/7", x -> x.answer(0, 'l', 0, true) + "/" + x.answer(0, 'l', 0, false));
        ledger.with(Halls.told("1 2 / 2 4 / 3 6 | 1 2 3"));
        ledger.refused(Ledger.UNSUPPORTED, x -> x.answer(0, 'l', 0, true));
        ledger.with(Halls.told("1 2 | 3"));
        ledger.refused(Ledger.UNSUPPORTED, x -> x.answer(0, 'l', 0, true));
        sentence("Least norm: of all answers");
        ledger.with(Halls.told("1 1 | 1"));
        ledger.taken("1/2", x -> x.answer(0, 'n', 0, true) + "/" + x.answer(0, 'n', 1, false));
        ledger.with(Halls.told("0 7 | 1"));
        ledger.taken("0/1 1/7", x -> x.answer(0, 'n', 0, true) + "/" + x.answer(0, 'n', 0, false) + " "
                + x.answer(0, 'n', 1, true) + "/" + x.answer(0, 'n', 1, false));
        ledger.with(Halls.told("1 2 3 / 2 4 6 | 1 2"));
        ledger.refused(Ledger.UNSUPPORTED, x -> x.answer(0, 'n', 0, true));
        ledger.with(Halls.told("1 / 2 | 1 2"));
        ledger.refused(Ledger.UNSUPPORTED, x -> x.answer(0, 'n', 0, true));
    }

    private static void eigenvalues() {
        sentence("Eigenvalues, of a square matrix");
        ledger.with(() -> Halls.diagonal(3, 3, 3, 0, 0, -1, -1));
        ledger.taken("3 0 3 5 7", x -> x.above(0, 2) + " " + x.above(0, 3) + " " + x.above(0, 0) + " " + x.above(0, -1)
                + " " + x.above(0, -2));
        ledger.taken("3 3 3 0 0 -1 -1", x -> {
            StringBuilder all = new StringBuilder();
            for (int index = 0; index < 7; index++) {
                all.append(index > 0 ? " " : "").append(x.floor(0, index));
            }
            return all.toString();
        });
        ledger.with(Halls.told("1 2 / 3 1"));
        ledger.refused(Ledger.UNSUPPORTED, x -> x.above(0, 0));
        ledger.refused(Ledger.UNSUPPORTED, x -> x.floor(0, 0));
        sentence("Conjugate steps, for such a matrix");
        ledger.with(Halls.told("2 0 / 0 2 | 1 1"));
        ledger.taken(1, x -> x.steps(0));
        ledger.with(Halls.told("2 0 / 0 3 | 1 1"));
        ledger.taken(2, x -> x.steps(0));
        ledger.with(Halls.told("2 0 / 0 3 | 1 0"));
        ledger.taken(1, x -> x.steps(0));
        ledger.with(Halls.told("2 0 / 0 3"));
        ledger.taken(0, x -> x.steps(0));
        ledger.with(() -> {
            SparseHall hall = Halls.diagonal(1, 2, 3, 4, 5, 6, 7, 8, 9, 10);
            for (int i = 0; i < 10; i++) {
                hall.right(0, i, 1);
            }
            return hall;
        });
        ledger.taken(10, x -> x.steps(0));
        ledger.taken(9, x -> x.set(0, 9, 9, 9) - 10 + x.steps(0));
        ledger.taken(9, x -> x.right(0, 0, 0) - 1 + x.steps(0));
        ledger.with(Halls.told("0 | 0"));
        ledger.refused(Ledger.UNSUPPORTED, x -> x.steps(0));
    }

    // ---- patterns and paths

    private static void patterns() {
        sentence("Patterns by levels");
        // 1-2 gets 1 over 0; that is kept with level 1, and not with 0
        ledger.with(() -> Halls.joined(3, 0, 1, 0, 2));
        ledger.taken(7, x -> x.kept(0, 0));
        ledger.taken(9, x -> x.kept(0, 1));
        ledger.taken(9, x -> x.kept(0, 20));
        // one side alone: 1 0 and 0 2 give 1 2, and not 2 1
        ledger.with(Halls.told("0 0 7 / 7 0 0 / 0 0 0"));
        ledger.taken(5, x -> x.kept(0, 0));
        ledger.taken(6, x -> x.kept(0, 1));
        // by rising indices: what is ahead of the one that is eliminated gets nothing
        ledger.with(() -> Halls.joined(3, 2, 0, 2, 1));
        ledger.taken(7, x -> x.kept(0, 20));
        // 2-3 gets 1 over 0 and 2 over 1: the lesser level stays
        ledger.with(() -> Halls.joined(4, 0, 1, 0, 2, 0, 3));
        ledger.taken(16, x -> x.kept(0, 1));
        // a greater level gives way: 3-4 gets 2 over 1 and then 1 over 2
        ledger.with(() -> Halls.joined(5, 0, 1, 0, 3, 1, 4, 2, 3, 2, 4));
        ledger.taken("15 19 19", x -> x.kept(0, 0) + " " + x.kept(0, 1) + " " + x.kept(0, 2));
        sentence("Kept are those with at most the level that is told.");
        ledger.with(() -> {
            SparseHall hall = Halls.way(6);
            hall.set(0, 5, 0, 1);
            return hall;
        });
        for (int level = 0; level <= 6; level++) {
            int most = level;
            ledger.taken(17 + Math.min(level, 3), x -> x.kept(0, most));
        }
        sentence("Aggregates: by rising indices");
        ledger.with(() -> Halls.eye(3, 3));
        ledger.taken("0 1 2", x -> x.aggregate(0, 0) + " " + x.aggregate(0, 1) + " " + x.aggregate(0, 2));
        ledger.with(() -> Halls.way(3));
        ledger.taken("0 0 0", x -> x.aggregate(0, 0) + " " + x.aggregate(0, 1) + " " + x.aggregate(0, 2));
        ledger.with(() -> Halls.way(4));
        ledger.taken("0 0 1 1", x -> x.aggregate(0, 0) + " " + x.aggregate(0, 1) + " " + x.aggregate(0, 2) + " "
                + x.aggregate(0, 3));
        // 2 is joined with 1, of the first one, and with 4, of the second one: the lowest index counts
        ledger.with(() -> Halls.joined(5, 0, 1, 1, 2, 3, 4, 4, 2));
        ledger.taken("0 0 0 1 1", x -> x.aggregate(0, 0) + " " + x.aggregate(0, 1) + " " + x.aggregate(0, 2) + " "
                + x.aggregate(0, 3) + " " + x.aggregate(0, 4));
        // 3 is joined with 2, which comes to one in the second pass, and with 5, of the first pass
        ledger.with(() -> Halls.joined(6, 0, 4, 1, 5, 2, 4, 2, 3, 3, 5));
        ledger.taken("0 1 0 1 0 1", x -> x.aggregate(0, 0) + " " + x.aggregate(0, 1) + " " + x.aggregate(0, 2) + " "
                + x.aggregate(0, 3) + " " + x.aggregate(0, 4) + " " + x.aggregate(0, 5));
        sentence("Paths: an entry that is not 0 is an arc");
        ledger.with(Halls.told("0 -3 / 0 0"));
        ledger.taken(-3, x -> x.best(0, 0, 1, 'm'));
        ledger.taken(1L, x -> x.walks(0, 0, 1, 1));
        ledger.taken(0L, x -> x.walks(0, 1, 0, 1));
        ledger.refused(Ledger.NO_ELEMENT, x -> x.best(0, 1, 0, 'm'));
    }

    // ---- exceptions

    /** The ledger itself asks of each refused call that it changes nothing. */
    private static void throwing() {
        sentence("A method that throws an exception changes nothing.");
        ledger.with(() -> {
            SparseHall hall = Halls.of("2 1 0 / 1 2 1 / 0 1 2 | 1 -2 3", "1 2 / 3 4 / 5 6 | 7 8 9");
            hall.order(0, 'w');
            return hall;
        });
        ledger.refused(Ledger.ARGUMENT, x -> x.set(0, 1, 1, 1000));
        ledger.refused(Ledger.INDEX, x -> x.set(0, 3, 1, 5));
        ledger.refused(Ledger.ARGUMENT, x -> x.right(0, 1, -1000));
        ledger.refused(Ledger.INDEX, x -> x.exchange(0, true, 0, 3));
        ledger.refused(Ledger.INDEX, x -> x.exchange(1, false, 0, 2));
        ledger.refused(Ledger.INDEX, x -> x.exchange(1, false, 2, 0));
        ledger.refused(Ledger.ARGUMENT, x -> x.order(0, 'q'));
        ledger.refused(Ledger.UNSUPPORTED, x -> x.order(1, 'd'));
        ledger.refused(Ledger.INDEX, x -> x.order(2, 'd'));
        ledger.refused(Ledger.UNSUPPORTED, x -> x.multiply(1, 0));
        ledger.refused(Ledger.INDEX, x -> x.transpose(2));
        ledger.refused(Ledger.ARGUMENT, x -> x.matrix(1, 0));
        ledger.taken(0, x -> x.entry(0, 0, 2));
        // answers stand, whatever was refused between them
        ledger.taken("4 4 true", x -> {
            long before = x.determinant(0);
            int refused = 0;
            for (int call = 0; call < 6; call++) {
                try {
                    if (call == 0) {
                        x.vector(0, 0);
                    } else if (call == 1) {
                        x.answer(1, 's', 0, true);
                    } else if (call == 2) {
                        x.answerModulo(0, 0, 2);
                    } else if (call == 3) {
                        x.blocks(1);
                    } else if (call == 4) {
                        x.best(1, 0, 2, '+');
                    } else {
                        x.kept(0, 21);
                    }
                } catch (RuntimeException thrown) {
                    refused++;
                }
            }
            return refused == 6 ? before + " " + x.determinant(0) + " " + x.isSound() : refused;
        });
    }

    /** Each pair of a method's exceptions that can apply at once. */
    private static void firstOfSeveral() {
        sentence("If several exceptions apply");
        ledger.with(Halls.told("1 2", "1", "1", "1", "999", "2"));
        ledger.refused(Ledger.ARGUMENT, x -> x.matrix(17, 1));
        ledger.refused(Ledger.INDEX, x -> x.transpose(6));
        ledger.refused(Ledger.INDEX, x -> x.multiply(0, 6));
        ledger.refused(Ledger.INDEX, x -> x.multiply(6, 0));
        ledger.refused(Ledger.UNSUPPORTED, x -> x.multiply(0, 0));
        ledger.refused(Ledger.UNSUPPORTED, x -> x.multiply(4, 5));
        ledger.refused(Ledger.STATE, x -> x.multiply(1, 1));
        ledger.refused(Ledger.INDEX, x -> x.set(6, 0, 0, 1000));
        ledger.refused(Ledger.INDEX, x -> x.set(0, 1, 0, 1000));
        ledger.refused(Ledger.INDEX, x -> x.set(0, 0, 2, 1000));
        ledger.refused(Ledger.INDEX, x -> x.right(0, 1, 1000));
        ledger.refused(Ledger.INDEX, x -> x.right(6, 0, 1000));
        ledger.with(Halls.told("1 2", "1 1 / 1 1", "-1 0 / 0 0"));
        ledger.refused(Ledger.INDEX, x -> x.blockOf(0, 1));
        ledger.refused(Ledger.INDEX, x -> x.blockOf(2, 2));
        ledger.refused(Ledger.INDEX, x -> x.order(3, 'x'));
        ledger.refused(Ledger.ARGUMENT, x -> x.order(0, 'x'));
        ledger.refused(Ledger.INDEX, x -> x.ordered(0, 1));
        ledger.refused(Ledger.INDEX, x -> x.parent(0, 1));
        ledger.refused(Ledger.INDEX, x -> x.countOf(0, 1));
        ledger.refused(Ledger.INDEX, x -> x.path(0, 1));
        ledger.refused(Ledger.INDEX, x -> x.aggregate(0, 1));
        ledger.refused(Ledger.INDEX, x -> x.work(3, 0));
        ledger.refused(Ledger.ARGUMENT, x -> x.work(0, 0));
        ledger.refused(Ledger.INDEX, x -> x.modulo(3, 4));
        ledger.refused(Ledger.ARGUMENT, x -> x.modulo(0, 4));
        ledger.refused(Ledger.INDEX, x -> x.answer(0, 'x', 2, true));
        ledger.refused(Ledger.INDEX, x -> x.answer(0, 's', 2, true));
        ledger.refused(Ledger.ARGUMENT, x -> x.answer(0, 'x', 1, true));
        ledger.refused(Ledger.ARGUMENT, x -> x.answer(1, 'x', 1, true));
        ledger.refused(Ledger.INDEX, x -> x.answerModulo(0, 2, 4));
        ledger.refused(Ledger.INDEX, x -> x.answerModulo(0, 2, 5));
        ledger.refused(Ledger.ARGUMENT, x -> x.answerModulo(0, 1, 4));
        ledger.refused(Ledger.ARGUMENT, x -> x.answerModulo(1, 1, 4));
        ledger.refused(Ledger.INDEX, x -> x.inverse(0, 1, 0, true));
        ledger.refused(Ledger.INDEX, x -> x.inverse(0, 0, 2, true));
        ledger.refused(Ledger.INDEX, x -> x.inverse(1, 2, 0, true));
        ledger.refused(Ledger.INDEX, x -> x.above(3, 100000));
        ledger.refused(Ledger.ARGUMENT, x -> x.above(0, 100000));
        ledger.refused(Ledger.INDEX, x -> x.floor(0, 1));
        ledger.refused(Ledger.INDEX, x -> x.kept(3, 21));
        ledger.refused(Ledger.ARGUMENT, x -> x.kept(0, 21));
        ledger.refused(Ledger.INDEX, x -> x.best(0, 1, 0, 'x'));
        ledger.refused(Ledger.INDEX, x -> x.best(0, 0, 1, '+'));
        ledger.refused(Ledger.INDEX, x -> x.best(2, 1, 2, '+'));
        ledger.refused(Ledger.ARGUMENT, x -> x.best(0, 0, 0, 'x'));
        ledger.refused(Ledger.ARGUMENT, x -> x.best(2, 1, 1, 'x'));
        ledger.refused(Ledger.UNSUPPORTED, x -> x.best(2, 1, 1, '+'));
        ledger.refused(Ledger.NO_ELEMENT, x -> x.best(2, 1, 1, 'm'));
        ledger.refused(Ledger.INDEX, x -> x.walks(0, 1, 0, 0));
        ledger.refused(Ledger.INDEX, x -> x.walks(0, 0, 1, 13));
        ledger.refused(Ledger.ARGUMENT, x -> x.walks(0, 0, 0, 13));
        ledger.with(() -> Halls.blank(11, 11));
        ledger.refused(Ledger.INDEX, x -> x.vector(0, 11));
        ledger.refused(Ledger.INDEX, x -> x.answer(0, 'x', 11, true));
        ledger.refused(Ledger.ARGUMENT, x -> x.answer(0, 'x', 10, true));
        ledger.refused(Ledger.INDEX, x -> x.inverse(0, 11, 0, true));
        ledger.refused(Ledger.INDEX, x -> x.floor(0, 11));
        ledger.refused(Ledger.ARGUMENT, x -> x.above(0, -100000));
        ledger.with(() -> Halls.eye(11, 10));
        ledger.refused(Ledger.UNSUPPORTED, x -> x.vector(0, 0));
        ledger.refused(Ledger.INDEX, x -> x.vector(0, 10));
        ledger.with(() -> Halls.eye(10, 10));
        ledger.refused(Ledger.INDEX, x -> x.vector(0, 10));
        ledger.refused(Ledger.NO_ELEMENT, x -> x.vector(0, 9));
        ledger.answers(x -> x.determinant(0));
    }
}
