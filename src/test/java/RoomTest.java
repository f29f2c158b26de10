import java.lang.management.ManagementFactory;
import java.util.Random;

/** The room that a run takes: a new object makes some hundred objects, and no call makes any. */
public final class RoomTest {
    private static final int CALLS = 512;
    private static final long MOST_BYTES_OF_A_NEW_OBJECT = 64 * 1024;
    private static final long MOST_BYTES_OF_A_RUN = 4 * 1024;

    public static void main(String[] args) {
        com.sun.management.ThreadMXBean bean = (com.sun.management.ThreadMXBean) ManagementFactory.getThreadMXBean();
        long thread = Thread.currentThread().getId();
        int[][] calls = drawn();
        long sum = run(new PrisonShops(), calls);
        long before = bean.getThreadAllocatedBytes(thread);
        PrisonShops x = new PrisonShops();
        long made = bean.getThreadAllocatedBytes(thread);
        sum += run(x, calls);
        long after = bean.getThreadAllocatedBytes(thread);
        System.out.println("a new object: " + (made - before) + " bytes, " + CALLS + " calls: " + (after - made));
        Due.isTrue("a new object is small", made - before <= MOST_BYTES_OF_A_NEW_OBJECT);
        Due.isTrue("calls make no objects", after - made <= MOST_BYTES_OF_A_RUN);
        Due.isTrue("the calls are made", sum != 0);
        Due.end();
    }

    /** All calls again and again, mostly with numbers that fit. */
    private static int[][] drawn() {
        Random random = new Random(3);
        int[][] calls = new int[CALLS][6];
        for (int i = 0; i < CALLS; i++) {
            calls[i][0] = i < 60 ? i % 5 == 0 ? 0 : i % 5 == 4 ? Calls.numberOf("thing") : Calls.numberOf("hand") : i % Calls.NAMES.length;
            for (int k = 1; k < 6; k++) {
                calls[i][k] = random.nextInt(i < 60 ? 4 : 6);
            }
        }
        return calls;
    }

    private static long run(PrisonShops x, int[][] calls) {
        long sum = 0;
        int[] v = new int[5];
        for (int[] call : calls) {
            System.arraycopy(call, 1, v, 0, 5);
            sum += Calls.make(x, call[0], v);
        }
        return sum;
    }
}
