import com.sun.management.ThreadMXBean;
import java.lang.management.ManagementFactory;

/**
 * All calls of one run share a room of some 600,000 objects and 7.3 million fields and elements.
 * The class makes its rows once: this measures that 512 of the dearest calls make next to nothing.
 */
public final class RoomTest {
    private static final ThreadMXBean BEAN = (ThreadMXBean) ManagementFactory.getThreadMXBean();

    /** A call that is repeated. */
    private interface Call {
        Object run();
    }

    private static int wrong = 0;

    public static void main(String[] args) {
        new SparseHall().matrix(1, 1);
        long before = bytes();
        SparseHall hall = new SparseHall();
        long made = bytes() - before;
        expect("new SparseHall()", made, 64_000);
        before = bytes();
        fill(hall);
        expect("six matrices", bytes() - before, 64_000);
        measure("isSound", () -> hall.isSound());
        measure("answer", () -> hall.answer(0, 'l', 3, true));
        measure("answer", () -> hall.answer(0, 'n', 3, true));
        measure("answer", () -> hall.answer(0, 's', 3, true));
        measure("vector", () -> hall.vector(1, 3));
        measure("digits", () -> hall.digits(0));
        measure("inverse", () -> hall.inverse(0, 1, 1, true));
        measure("floor", () -> hall.floor(2, 4));
        measure("above", () -> hall.above(2, 4));
        measure("steps", () -> hall.steps(2));
        measure("rank", () -> hall.rank(0));
        measure("modulo", () -> hall.modulo(0, 997));
        measure("least", () -> hall.least(0));
        measure("blocks", () -> hall.blocks(0));
        measure("order", () -> hall.order(0, 's'));
        measure("order", () -> hall.order(0, 'd'));
        measure("order", () -> hall.order(0, 'w'));
        measure("memory", () -> hall.memory(0));
        measure("work", () -> hall.work(0, 4));
        measure("kept", () -> hall.kept(0, 20));
        measure("aggregate", () -> hall.aggregate(0, 9));
        measure("best", () -> hall.best(0, 1, 2, 'm'));
        measure("walks", () -> hall.walks(0, 1, 2, 12));
        measure("multiply", () -> hall.multiply(0, 0));
        measure("transpose", () -> hall.transpose(0));
        System.out.println("RoomTest: " + wrong + " wrong");
        System.exit(wrong == 0 ? 0 : 1);
    }

    private static long bytes() {
        return BEAN.getThreadAllocatedBytes(Thread.currentThread().getId());
    }

    private static void fill(SparseHall hall) {
        for (int m = 0; m < 6; m++) {
            hall.matrix(10, 10);
            for (int i = 0; i < 10; i++) {
                hall.right(m, i, 997 - 31 * i);
                for (int j = 0; j < 10; j++) {
                    int entry = m == 2 ? (i == j ? 999 : (i + j) % 7) : (i * i * 331 + j * j * j * 17 + i * j * 77 + m) % 1999 - 999;
                    hall.set(m, i, j, m == 1 && j == 9 ? hall.entry(m, i, 0) : entry);
                }
            }
        }
    }

    /** An exception is an object of the machine's, some hundred bytes with what it tells of the calls. */
    private static void measure(String name, Call call) {
        for (int warm = 0; warm < 8; warm++) {
            attempt(call);
        }
        long before = bytes();
        for (int time = 0; time < 512; time++) {
            attempt(call);
        }
        expect(name, bytes() - before, 512 * 1000);
    }

    private static void attempt(Call call) {
        try {
            call.run();
        } catch (RuntimeException thrown) {
            if (thrown.getMessage() != null) {
                wrong++;
                System.out.println(thrown);
            }
        }
    }

    private static void expect(String what, long made, long most) {
        if (made > most) {
            wrong++;
            System.out.println(what + " made " + made + " bytes, and " + most + " are expected at most");
        }
    }
}
