import java.lang.management.ManagementFactory;

/** What is made: all calls of one run live in one room, so 512 of the dearest ones must stay far below it. */
public final class RoomTest {
    /** The room has 7.3 million fields and elements; most of those here are of 4 bytes or 8. */
    private static final long LIMIT = 7_300_000;

    public static void main(String[] args) {
        // The first round also loads classes, which is not the program's.
        rows();
        works();
        long before = made();
        rows();
        long between = made();
        works();
        small("512 calls that make rows", between - before);
        small("512 calls that work runs and read texts", made() - between);
        Due.done("RoomTest");
    }

    private static void small(String what, long bytes) {
        Due.due(what + " make " + bytes + " bytes, below " + LIMIT, bytes < LIMIT ? 1 : 0, 1);
    }

    private static long made() {
        return ((com.sun.management.ThreadMXBean) ManagementFactory.getThreadMXBean())
            .getThreadAllocatedBytes(Thread.currentThread().getId());
    }

    private static void rows() {
        AnswerSlices x = new AnswerSlices();
        for (int i = 0; i < 256; i++) {
            x.row(i % 6, 5, 20);
            x.copy((i + 1) % 6, i % 6);
        }
    }

    private static void works() {
        AnswerSlices x = new AnswerSlices();
        Due.type(x, "die a=1 to 8;die b=1 to 4;coin c=1 of 2;let d=try fail a else a*b+c;see d-5;ask d/b;ask d;");
        x.read();
        for (int i = 0; i < 80; i++) {
            x.worst(0, 3, 2, 0, 2);
            x.apart(0, 1);
            x.value(1, i);
            x.same(0, i);
            x.type(i, 2);
            x.read();
        }
    }
}
