import java.lang.management.ManagementFactory;

/** All calls of a run live in one room: what a call makes is never given back, so it makes nothing. */
public final class RoomTest {
    /** Of each of two rounds; what comes behind an object's 512th call is free. */
    private static final int CALLS = 220;
    private static final int MOST_BYTES_OF_AN_OBJECT = 1 << 16;

    public static void main(String[] args) {
        StrictSentences x = Check.holding("(((p&q)|(r>s))>((q&p)|(s>r)))", "--(p|-p)", "(((p>q)>p)>p)");
        com.sun.management.ThreadMXBean threads =
                (com.sun.management.ThreadMXBean) ManagementFactory.getThreadMXBean();
        use(x);
        allocated(threads);
        long before = allocated(threads);
        long answers = use(x);
        long made = allocated(threads) - before;
        Check.holds("calls answered " + answers, answers != 0);
        Check.holds("calls made " + made + " bytes", made < CALLS);
        before = allocated(threads);
        StrictSentences y = new StrictSentences();
        made = allocated(threads) - before;
        Check.due("a new object", y.count(0), 0);
        Check.holds("a new object made " + made + " bytes", made < MOST_BYTES_OF_AN_OBJECT);
        Check.end();
    }

    private static long allocated(com.sun.management.ThreadMXBean threads) {
        return threads.getThreadAllocatedBytes(Thread.currentThread().getId());
    }

    private static long use(StrictSentences x) {
        long sum = 0;
        for (int i = 0; i < CALLS / 20; i++) {
            sum += x.say('-') + x.say('p') + x.read(3) + x.fault() + x.make(4, 1, 2, 1) + x.part(5, 0, 9);
            sum += x.sign(0, 7) + x.told(0, 5, 1) + x.plain(1) + x.rows(2) + x.follows(1, 3) + x.from(0, 7, 10);
            sum += x.worlds(0, 4) + x.world(0, 3, 1) + x.image(0) + x.drop(4) + x.restore(0) + x.count(1);
            sum += x.count(2) + x.wipe();
        }
        return sum;
    }
}
