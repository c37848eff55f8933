import java.lang.management.ManagementFactory;

/** What is made: all calls of one run live in one room, so 512 of the dearest ones must stay small. */
public final class RoomTest {
    private static final long LIMIT = 512 * 1024;

    public static void main(String[] args) {
        // The first round also loads classes, which is not the program's.
        calls();
        long before = made();
        calls();
        long bytes = made() - before;
        Due.due("bytes made by 512 rows and 512 others: " + bytes + ", below " + LIMIT, bytes < LIMIT ? 1 : 0, 1);
        Due.done("RoomTest");
    }

    private static long made() {
        return ((com.sun.management.ThreadMXBean) ManagementFactory.getThreadMXBean())
            .getThreadAllocatedBytes(Thread.currentThread().getId());
    }

    private static void calls() {
        AnswerSlices rows = new AnswerSlices();
        for (int i = 0; i < 256; i++) {
            rows.row(i % 6, 4, 20);
            rows.copy((i + 1) % 6, i % 6);
        }
        AnswerSlices x = new AnswerSlices();
        String text = "die a=1 to 8;die b=1 to 4;coin c=1 of 2;let d=try fail a else a*b+c;see d-5;ask d/b;ask d;";
        for (int i = 0; i < text.length(); i++) x.type(text.charAt(i), 1);
        x.read();
        for (int i = 0; i < 100; i++) {
            x.worst(0, 3, 2, 0, 2);
            x.apart(0, 1);
            x.value(1, i);
            x.same(0, i);
            x.type(i, 2);
            x.read();
        }
    }
}
