import com.sun.management.ThreadMXBean;
import java.lang.management.ManagementFactory;

/** All rows are made with the object: no call that returns makes anything. */
public final class RoomTest {
    private static final Runs RUNS = new Runs("RoomTest");
    private static final int ROUNDS = 1000;
    private static final ThreadMXBean THREADS = (ThreadMXBean) ManagementFactory.getThreadMXBean();

    public static void main(String[] args) {
        int[] plan = Runs.fours("a2-9E5D3*3;b1-2>a;c3-3H9/a;d30-30E9").stream().mapToInt(f -> f).toArray();
        RoverMinutes rover = new RoverMinutes();
        // The first round loads classes, and asking what was made makes a little itself.
        callAll(rover, plan);
        long before = made();
        long asking = made() - before;
        before = made();
        for (int round = 0; round < ROUNDS; round++) {
            callAll(rover, plan);
        }
        long rounds = made() - before;
        RUNS.due("a round of calls makes nothing, not " + rounds / ROUNDS + " bytes", rounds < 8 * ROUNDS, true);
        before = made();
        new RoverMinutes();
        long one = made() - before - asking;
        RUNS.due("an object takes less than 4,000 bytes, not " + one, one < 4000, true);
        RUNS.end();
    }

    private static long made() {
        return THREADS.getThreadAllocatedBytes(Thread.currentThread().getId());
    }

    private static void callAll(RoverMinutes rover, int[] plan) {
        rover.home(3, 4);
        rover.fill(900, 3);
        for (int four : plan) {
            rover.type(four);
        }
        rover.submit();
        rover.type('b');
        rover.enable();
        rover.lasts(0, 11);
        rover.draws(0, 11);
        rover.curve(3, 9);
        rover.gain(7);
        rover.minutes(3);
        rover.could(3);
        for (int what = 0; what < 6; what++) {
            rover.activity(0, what);
        }
        rover.level(rover.reserve() + rover.lowest() + rover.now() > 0 ? 2 : 1);
        rover.minutes(20);
        rover.cancel();
        rover.minutes(60);
        rover.submit();
        rover.activities();
        rover.mode();
    }
}
