import java.lang.management.ManagementFactory;

/** All calls of one run live in one room: the constructor takes little, and calls take nothing. */
public final class RoomTests {
    private static final long MOST_BYTES_OF_AN_OBJECT = 150_000;
    // some bytes, as the machine may take room for itself; one array a call would be far above
    private static final long MOST_BYTES_OF_ALL_CALLS = 4_000;

    private static final com.sun.management.ThreadMXBean THREADS =
        (com.sun.management.ThreadMXBean) ManagementFactory.getThreadMXBean();

    private static int answers = 0;

    public static void main(String[] args) {
        StringBuilder text = new StringBuilder("Jdsw1t1t2f>0;");
        text.append("C").append("ra1 1Ra2 2".repeat(12)).append(":=;");
        for (int c = 0; c < 3; c++) {
            text.append("C").append("ra1 1kRb2 2xh1H2".repeat(4)).append(":").append("a1 1".repeat(8)).append("~;");
        }
        // once for classes to be loaded, then for the count
        callAll(new JobTests(), text.toString());
        JobTests[] made = new JobTests[8];
        long start = taken();
        for (int i = 0; i < made.length; i++) {
            made[i] = new JobTests();
        }
        long ofObjects = taken() - start;
        start = taken();
        callAll(made[0], text.toString());
        long ofCalls = taken() - start;
        boolean good = ofObjects / made.length <= MOST_BYTES_OF_AN_OBJECT && ofCalls <= MOST_BYTES_OF_ALL_CALLS;
        System.out.println("an object takes " + ofObjects / made.length + " bytes, its calls take " + ofCalls + " ("
            + answers + ")" + (good ? "" : ": too much"));
        if (!good) {
            System.exit(1);
        }
    }

    private static long taken() {
        return THREADS.getThreadAllocatedBytes(Thread.currentThread().getId());
    }

    private static void callAll(JobTests x, String text) {
        for (int at = 0; at < text.length(); at += 8) {
            int n = Math.min(8, text.length() - at);
            long signs = 0;
            for (int i = 0; i < n; i++) {
                signs |= (long) text.charAt(at + i) << (8 * i);
            }
            answers += x.type(signs, n);
        }
        answers += x.parse();
        for (int round = 0; round < 4; round++) {
            for (int c = 0; c < 4; c++) {
                answers += x.run(c) + x.ran(c, round) + x.out(c, 0, 1) + x.difference(c) + x.schedules(c, 3);
                answers += x.schedule(c, 3, 20) + x.equal(c, x.shuffle(c, round)) + x.failing(c, 3, 200);
                answers += x.shrink(c) + x.left(c, 0) + x.cover(c, round) + x.mutant(c, 4) + x.alone(c);
                answers += x.event(c, 0, 0) + x.step(c, 0) + x.count(c);
            }
        }
    }
}
