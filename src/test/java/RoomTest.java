import com.sun.management.ThreadMXBean;
import java.lang.management.ManagementFactory;

/** All calls of one run live in one room: what an object makes is little, and its calls make nothing more. */
public final class RoomTest {
    public static void main(String[] args) {
        ThreadMXBean meter = (ThreadMXBean) ManagementFactory.getThreadMXBean();
        long thread = Thread.currentThread().getId();
        allCalls(new BestReplies(), 3);
        long start = meter.getThreadAllocatedBytes(thread);
        BestReplies x = new BestReplies();
        long made = meter.getThreadAllocatedBytes(thread) - start;
        Check.due("bytes of a new object below 24,000: " + made, made < 24000, true);
        allCalls(x, 1);
        start = meter.getThreadAllocatedBytes(thread);
        int calls = allCalls(x, 25);
        long more = meter.getThreadAllocatedBytes(thread) - start;
        Check.due("bytes of " + calls + " calls below 2,000: " + more, more < 2000, true);
        Check.finish();
    }

    private static int allCalls(BestReplies x, int times) {
        int calls = 0;
        x.game(6, 6);
        for (int k = 0; k < times; k++) {
            x.pay(0, k % 6, k / 6 % 6, 9999 - 37 * k, 1 + k % 12);
            x.pay(1, k / 6 % 6, k % 6, 37 * k - 9999, 1 + k % 12);
            x.weight(0, 0, 1, 1);
            x.weight(1, 5, 1, 1);
            x.run(k % 12);
            x.list();
            x.index(0);
            x.round();
            x.isThere(0, 0);
            calls += 9;
            for (int source = -2; source <= 0; source++) {
                x.support(source, 0);
                x.strategy(source, 0, 0);
                x.gets(source, 1, -1);
                x.replies(source, 1);
                x.judge(source);
                x.part(true, 0);
                calls += 6;
            }
        }
        return calls;
    }
}
