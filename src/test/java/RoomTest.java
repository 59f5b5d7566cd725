import com.sun.management.ThreadMXBean;
import java.lang.management.ManagementFactory;

/** All calls of a run live in one room: a call makes no object, all rows are made by the constructor. */
public final class RoomTest {
    private static final ThreadMXBean THREADS = (ThreadMXBean) ManagementFactory.getThreadMXBean();
    private static final String TEXT = "start 9;stretch9 9;stretch8 7;stretch6 5;stretch4 3;stretch2 1;stretch0 9;stretch8 7;"
        + "stretch6 5;stretch4 3;stretch2 1;bearer plain1 2;bearer hummer3 4;bearer trembler5 6;bearer tall7 8;"
        + "bearer twin9 0;bearer paid0 1;carry 1 5;carry 2 4;carry 3 3;";
    private static long sum;

    private RoomTest() {
    }

    public static void main(String[] args) {
        long made = Long.MAX_VALUE;
        long more = Long.MAX_VALUE;
        // What the machine itself makes at first, for names and texts, does not count: the least of several turns does.
        for (int turn = 0; turn < 5; turn++) {
            long before = bytesNow();
            AsleepPass x = new AsleepPass();
            made = Math.min(made, bytesNow() - before);
            Check.lay(x, TEXT);
            before = bytesNow();
            allCalls(x);
            more = Math.min(more, bytesNow() - before);
        }
        Check.dueTrue("an object has " + made + " bytes, a hundred thousand at most", made > 0 && made <= 100_000);
        Check.due("bytes made by all calls", more, 0);
        Check.dueTrue("the calls answered", sum != 0);
        Check.finish();
    }

    private static long bytesNow() {
        return THREADS.getThreadAllocatedBytes(Thread.currentThread().getId());
    }

    private static void allCalls(AsleepPass x) {
        sum += x.text() + x.feed(8) + x.end(0) + x.fault() + x.rule(0) + x.stretch(0, 0) + x.bearer(0, 0);
        sum += x.start(8) + x.noise(0, 8) + x.cold(0, 8) + x.step(0, 8) + x.warm(0, 8) + x.put(0, 1);
        sum += x.harm(0, 0, 1) + x.learn(0, 0, 1, 9) + x.mark(0, 7) + x.keep(0) + x.back(0);
        sum += x.sheet(0, 1, 9) + x.lay(0, 1, 2) + x.read(0, 1, 0, 9) + x.torn();
        for (int what = 0; what < 3; what++) {
            sum += x.wakes(what) + x.awake(9, what) + x.depth(9, 3, what) + x.best(what) + x.next(what, what, 3);
            sum += x.without(what, 0) + x.quiet(4, what) + x.drop(what) + x.swap(what) + x.carry(5, what);
            sum += x.steps(0, what) + x.paths() + x.eye(what) + x.sure(what) + x.count(what);
        }
        sum += x.forget(0) + x.wipe(0);
        // A text that is refused.
        sum += x.feed(0x7374617274203000L) + x.text();
    }
}
