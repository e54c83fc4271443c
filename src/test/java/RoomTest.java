import com.sun.management.ThreadMXBean;
import java.lang.management.ManagementFactory;

/**
 * What runs of 512 calls make, in bytes. All calls of one run share a room of some 7.3 million fields and elements and
 * 600,000 objects, so an object's dearest run has to stay far below that.
 */
public final class RoomTest {
    private static final long KIB = 1024;
    private static final ThreadMXBean THREADS = (ThreadMXBean) ManagementFactory.getThreadMXBean();
    private static long sum = 0;

    private RoomTest() {
    }

    public static void main(String[] args) {
        // Once before it is measured: what the machine itself makes when it loads classes is not the program's.
        long warm = newObjects(2) + solutionsOfManySizes() + patternsAndClears() + asking();
        Due.holds("something is made at all", warm > 0);
        Due.holds("100 new objects stay below 32 KiB each", newObjects(100) < 100 * 32 * KIB);
        Due.holds("solutions of many sizes stay below 1 MiB", solutionsOfManySizes() < KIB * KIB);
        Due.holds("patterns and clears make next to nothing", patternsAndClears() < 33 * KIB);
        Due.holds("asking makes next to nothing", asking() < 33 * KIB);
        Due.holds("the answers were used", sum != 0);
        Due.end();
    }

    private static long made() {
        return THREADS.getThreadAllocatedBytes(Thread.currentThread().getId());
    }

    private static long newObjects(int count) {
        long before = made();
        for (int i = 0; i < count; i++) {
            sum += new JoinPlanner().triples() + 1;
        }
        return made() - before;
    }

    private static JoinPlanner wide() {
        JoinPlanner x = new JoinPlanner();
        for (int i = 0; i < 140; i++) {
            x.insert(i % 64, 0, i / 64);
        }
        x.insert(0, 1, 0);
        x.pattern(-1, 0, -2);
        x.pattern(-3, 0, -4);
        return x;
    }

    /** By turns 19600 solutions, NO, none and one: rooms that do not stay would be made again each time. */
    private static long solutionsOfManySizes() {
        long before = made();
        JoinPlanner x = wide();
        for (int i = 0; i < 40; i++) {
            sum += x.solutions();
            x.insert(63, 0, 63);
            sum += x.solutions();
            x.remove(63, 0, 63);
            x.clear();
            x.pattern(-1, 1, -2);
            sum += x.solutions();
            x.clear();
            x.pattern(-1, 0, -2);
            x.pattern(-3, 0, -4);
        }
        return made() - before;
    }

    private static long patternsAndClears() {
        long before = made();
        JoinPlanner x = new JoinPlanner();
        for (int i = 0; i < 256; i++) {
            sum += x.pattern(-1, -2, -3);
            sum += x.clear();
        }
        return made() - before;
    }

    private static long asking() {
        long before = made();
        JoinPlanner x = wide();
        x.use(0);
        x.use(1);
        for (int i = 0; i < 60; i++) {
            sum += x.estimate(0, i) + x.plan(1) + x.cost() + x.size(2) + x.rows();
            x.insert(62, 1, i);
        }
        return made() - before;
    }
}
