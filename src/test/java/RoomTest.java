import java.lang.management.ManagementFactory;

/** All calls of one run live in one room: an object and what the dearest 512 calls make are a small part of it. */
public final class RoomTest {
    /** The room has some 7.3 million fields and elements, of 4 bytes or more each. */
    private static final long MOST_BYTES = 2_000_000;

    public static void main(String[] args) {
        Check.mustEnd();
        if (!(ManagementFactory.getThreadMXBean() instanceof com.sun.management.ThreadMXBean bean)
            || !bean.isThreadAllocatedMemorySupported()) {
            System.out.println("this machine does not tell what is made");
            return;
        }
        long thread = Thread.currentThread().getId();
        use(new LedgeLeaps());
        bean.getThreadAllocatedBytes(thread);
        long begun = bean.getThreadAllocatedBytes(thread);
        LedgeLeaps x = new LedgeLeaps();
        long made = bean.getThreadAllocatedBytes(thread) - begun;
        use(x);
        long used = bean.getThreadAllocatedBytes(thread) - begun;
        System.out.println("an object is of " + made + " bytes, and with 512 calls of " + used);
        Check.holds("that they are at most " + MOST_BYTES, used <= MOST_BYTES);
        Check.end();
    }

    private static void use(LedgeLeaps x) {
        for (int i = 0; i < 107; i++) {
            x.build(i * 7 % 20, i * 3 % 10);
            x.digest();
            x.leap(i % 2 * 2 - 1, i % 4);
            x.fewest(0, 0, i % 4, 1);
        }
        x.keep(0);
        for (int i = 0; i < 11; i++) {
            x.append('w');
            x.append('+');
            x.firstError();
            x.run();
            x.goBack(0);
            x.reachShare();
            x.undo();
        }
        for (int i = 0; i < 5; i++) {
            x.undo();
        }
    }
}
