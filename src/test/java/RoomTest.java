import com.sun.management.ThreadMXBean;
import java.lang.management.ManagementFactory;

/** All calls of a run share one room: a call that adds nothing makes no objects and no arrays. */
public final class RoomTest {
    private static final int ROUNDS = 40;
    private static final long BYTES_OF_THE_MEASURING = 1000;

    public static void main(String[] args) {
        Check.at("bytes");
        // the first measuring makes objects of its own
        allocated();
        askAll(fullObject());
        Coverpool pool = fullObject();
        long before = allocated();
        askAll(pool);
        long made = allocated() - before;
        Check.due("made by calls that add nothing (" + made + ") are few", true, made <= BYTES_OF_THE_MEASURING);
        Check.end();
    }

    private static long allocated() {
        ThreadMXBean threads = (ThreadMXBean) ManagementFactory.getThreadMXBean();
        return threads.getThreadAllocatedBytes(Thread.currentThread().getId());
    }

    private static Coverpool fullObject() {
        Coverpool pool = new Coverpool();
        for (int bond = 0; bond < 5; bond++) {
            pool.addBond(50000, 600);
        }
        for (int loan = 0; loan < 12; loan++) {
            Pools.addOut(pool, 10000, 500);
        }
        return pool;
    }

    private static void askAll(Coverpool pool) {
        pool.enter(0);
        for (int round = 0; round < ROUNDS; round++) {
            int in = pool.stateOf(0) == Coverpool.IN ? 0 : 1;
            if (pool.swap(in, 1 - in)) {
                in = 1 - in;
            }
            if (pool.leave(in)) {
                pool.enter(in);
            }
            pool.setArrears(0, round % 2);
            pool.setWorth(0, 1000 * (round % 2));
            pool.takeCash(1);
            pool.setRules(3, round, round % 20);
            pool.pass(1);
            pool.substitutes();
            pool.holds(Coverpool.WORTH);
            pool.lacking(Coverpool.MONEY);
            pool.leastToAdd();
            pool.leastToAddByAll();
        }
    }
}
