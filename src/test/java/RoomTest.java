import java.lang.management.ManagementFactory;

/** All calls of one run live in one room: the dearest calls make nothing, and an object is small. */
public final class RoomTest {
    public static void main(String[] args) {
        if (!(ManagementFactory.getThreadMXBean() instanceof com.sun.management.ThreadMXBean bean)
            || !bean.isThreadAllocatedMemorySupported()) {
            System.out.println("this machine does not tell what is made");
            return;
        }
        long thread = Thread.currentThread().getId();
        LedgeLeaps warm = new LedgeLeaps();
        use(warm);
        bean.getThreadAllocatedBytes(thread);
        long begun = bean.getThreadAllocatedBytes(thread);
        LedgeLeaps x = new LedgeLeaps();
        long made = bean.getThreadAllocatedBytes(thread);
        use(x);
        long used = bean.getThreadAllocatedBytes(thread) - made;
        Check.due("bytes of an object, below 200,000", made - begun < 200_000 ? 0 : made - begun, 0);
        Check.due("bytes made by 512 calls, below 2,000", used < 2_000 ? 0 : used, 0);
        Check.end();
    }

    private static void use(LedgeLeaps x) {
        for (int i = 0; i < 120; i++) {
            x.build(i * 7 % 20, i * 3 % 10);
            x.digest();
            x.leap(i % 2 * 2 - 1, i % 4);
            x.fewest(0, 0, i % 4, 1);
        }
        x.keep(0);
        for (int i = 0; i < 7; i++) {
            x.append('w');
            x.append('+');
            x.firstError();
            x.run();
            x.goBack(0);
        }
        for (int i = 0; i < 6; i++) {
            x.undo();
        }
    }
}
