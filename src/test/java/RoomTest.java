import com.sun.management.ThreadMXBean;
import java.lang.management.ManagementFactory;

/** All calls of one run live in one room, so the dearest calls must not make anew what they made before. */
public final class RoomTest extends Check {
    private static final long MOST_BYTES = 200_000;

    public static void main(String[] args) {
        at("the room");
        run();
        long before = bytes();
        run();
        long made = bytes() - before;
        due("whether 512 calls make at most " + MOST_BYTES + " bytes (" + made + " made)", made <= MOST_BYTES, true);
        end("512 of the dearest calls");
    }

    private static void run() {
        BottlePyramid x = full();
        for (int call = 1; call <= 510; call += 3) {
            int choice = call / 3 % 12;
            x.set(0, 1 + choice / 4);
            x.set(1 + choice % 2, choice / 2 % 2);
            x.digest();
        }
        x.digest();
        x.best();
    }

    private static long bytes() {
        ThreadMXBean threads = (ThreadMXBean) ManagementFactory.getThreadMXBean();
        return threads.getThreadAllocatedBytes(Thread.currentThread().getId());
    }
}
