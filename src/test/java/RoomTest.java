import java.lang.management.ManagementFactory;

/** All calls of a run share one room, so no call may make objects: only the constructor does. */
public final class RoomTest {
    private static final int CALLS = 512;

    public static void main(String[] args) {
        com.sun.management.ThreadMXBean memory = (com.sun.management.ThreadMXBean) ManagementFactory.getThreadMXBean();
        long me = Thread.currentThread().getId();
        DiverBottle x = Check.bottle("ring 3;diver 140 497 hook;diver 140 600 leak 1;salt 60 9;hour 3 250;");
        calls(x);
        long before = memory.getThreadAllocatedBytes(me);
        memory.getThreadAllocatedBytes(me);
        long idle = memory.getThreadAllocatedBytes(me) - before;
        before = memory.getThreadAllocatedBytes(me);
        calls(x);
        long made = memory.getThreadAllocatedBytes(me) - before;
        before = memory.getThreadAllocatedBytes(me);
        new DiverBottle();
        long first = memory.getThreadAllocatedBytes(me) - before;
        System.out.println(made + " bytes by the calls (" + idle + " by asking), " + first + " by a new object");
        if (made > idle + CALLS || first > 20000) {
            System.out.println("that is too much");
            System.exit(1);
        }
    }

    private static void calls(DiverBottle x) {
        for (int i = 0; i < CALLS / 16; i++) {
            x.go(999);
            x.feed(0x2020202020202020L);
            x.order(1);
            x.apart();
            x.bubbles(100, 40, 0);
            x.spread(100, 6, 0);
            x.late(0, 20, 5, 3, 999);
            x.step(0, 20, 5, 3, 999, 0);
            x.saw(0, 0, true);
            x.fits(140, 0);
            x.keep(i & 1);
            x.restore(i & 1);
            x.sheet(i & 3, 2, 40);
            x.lay(i & 3, 2, 1);
            x.read(i & 3, 2, 0, 12);
        }
    }
}
