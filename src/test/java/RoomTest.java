import java.lang.management.ManagementFactory;

/** What the dearest calls make: nothing, once the object stands, so that a run fits in its room. */
public final class RoomTest {
    private static final long MOST_BYTES = 64 * 1024;

    private static long allocated() {
        com.sun.management.ThreadMXBean threads =
                (com.sun.management.ThreadMXBean) ManagementFactory.getThreadMXBean();
        return threads.getThreadAllocatedBytes(Thread.currentThread().getId());
    }

    /** One object with 512 calls, of which as many as may be are dear ones. */
    private static long run() {
        LedWitness x = new LedWitness();
        String text = "abcdab;2";
        for (int i = 0; i < text.length(); i++) {
            x.letter(text.charAt(i));
        }
        long sum = x.open();
        for (int w = 0; w < 4; w++) {
            sum += x.witness(w);
            sum += x.saw(w, w, w, 2 * w);
        }
        for (int i = 0; i < 20; i++) {
            sum += x.corridor(0);
        }
        sum += x.image();
        for (int i = 0; i < 155; i++) {
            sum += x.digest();
            sum += x.weeks(60, i, 0);
            sum += x.restore();
        }
        return sum;
    }

    public static void main(String[] args) {
        long sum = run() + allocated();
        long before = allocated();
        sum += run();
        long made = allocated() - before;
        System.out.println("a run of 512 calls makes " + made + " bytes" + (sum == 0 ? "." : ""));
        if (made > MOST_BYTES) {
            System.out.println("due are " + MOST_BYTES + " at most");
            System.exit(1);
        }
    }
}
