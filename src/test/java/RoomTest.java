import com.sun.management.ThreadMXBean;
import java.lang.management.ManagementFactory;

/** All calls of one run live in one room: an object is small, and no call makes anything. */
public final class RoomTest {
    private static final int OBJECT_BYTES = 4000;
    private static final ThreadMXBean THREADS = (ThreadMXBean) ManagementFactory.getThreadMXBean();

    public static void main(String[] args) {
        long sum = 0;
        for (int round = 0; round < 3; round++) {
            sum += everyCall(new PhaseLoads(), round);
        }
        long ahead = bytes();
        bytes();
        long asking = bytes() - ahead;

        ahead = bytes();
        PhaseLoads x = new PhaseLoads();
        long made = bytes() - ahead - asking;
        Check.holds("an object's bytes: " + made, made <= OBJECT_BYTES);

        ahead = bytes();
        for (int round = 0; round < 9; round++) {
            sum += everyCall(x, round);
        }
        long called = bytes() - ahead - asking;
        // less than one object of the smallest kind in each round
        Check.holds("the calls' bytes: " + called, called < 9 * 16);
        Check.holds("answers were asked: " + sum, sum != 0);
        Check.end();
    }

    private static long bytes() {
        return THREADS.getThreadAllocatedBytes(Thread.currentThread().getId());
    }

    private static long everyCall(PhaseLoads x, int round) {
        long sum = x.draw(round, 9) + x.sets(0, 1, 5) + x.weight(1, 3) + x.fuse(100) + x.tie(1, 2) + x.tie(1, 2);
        sum += x.of(3, 4) + x.takes(3, 1) + x.load(1, 1) + x.neutral(2) + x.grief() + x.good(0) + x.good(1);
        sum += x.worst(0) + x.worst(1) + x.change(0, 1) + x.swap(3, 4) + x.step() + x.best(0) + x.phase(1);
        sum += x.by(3) + x.fewest(4000) + x.many() + x.next(0) + x.lay() + x.undo() + x.down() + x.told(8);
        for (int i = 0; i < 12; i++) {
            sum += x.change(i % 9, i % 3) + x.best(1);
        }
        return sum + x.digest() + x.loosens() + x.anew() + x.house(0, 1, 2);
    }
}
