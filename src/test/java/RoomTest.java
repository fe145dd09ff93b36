import java.lang.management.ManagementFactory;

/** All calls of a run live in one room: an object is small, and its calls make nothing more. */
public final class RoomTest {
    private static final int MOST_BYTES_OF_AN_OBJECT = 16000;
    private static final int MOST_BYTES_OF_A_RUN = 2000;

    private static final com.sun.management.ThreadMXBean THREADS =
        (com.sun.management.ThreadMXBean) ManagementFactory.getThreadMXBean();

    public static void main(String[] args) {
        // The first round loads classes, which is no part of what is measured.
        run();
        long before = bytes();
        RingSteer steer = new RingSteer();
        long made = bytes();
        useAll(steer);
        long used = bytes();
        Check.holds("an object takes " + (made - before) + " bytes", made - before <= MOST_BYTES_OF_AN_OBJECT);
        Check.holds("a run of calls takes " + (used - made) + " bytes", used - made <= MOST_BYTES_OF_A_RUN);
        Check.end("RoomTest");
    }

    private static long bytes() {
        return THREADS.getThreadAllocatedBytes(Thread.currentThread().getId());
    }

    private static void run() {
        bytes();
        useAll(new RingSteer());
    }

    private static void useAll(RingSteer steer) {
        String text = "t2;b2;j2;m20;w1 -1;w5 5;k0;k1;";
        for (int round = 0; round < 8; round++) {
            for (int i = 0; i < text.length(); i++) {
                steer.type(text.charAt(i));
            }
            steer.tunnel();
            steer.wishes(3, round, 9);
            steer.rules(2, 0);
            steer.follows(5);
            steer.builds(3);
            steer.plan(5, -1);
            steer.trying(4);
            steer.sees(1, 1);
            steer.unseen(1);
            steer.odds(3, 20, 0);
            steer.keep(0);
            steer.undo();
            steer.back(0);
            steer.worst(1);
            steer.ring(1, 5);
            steer.wish(1, 1);
            steer.count(5);
            steer.count(6);
            steer.forget();
            steer.clear();
        }
    }
}
