import java.lang.management.ManagementFactory;

/** All rows are made in the constructor: no call makes an object, so that a long run fits into its room. */
public final class MakesNothingTest {
    private static final int[] ARGUMENTS = {7, 1, 2, 0, 0};

    private MakesNothingTest() {
    }

    public static void main(String[] args) {
        Checks checks = new Checks("MakesNothingTest");
        com.sun.management.ThreadMXBean beans = (com.sun.management.ThreadMXBean) ManagementFactory.getThreadMXBean();
        long me = Thread.currentThread().getId();
        FoughtFromMemory x = new FoughtFromMemory();
        Checks.tell(x, "p1;p4;p9;k000249;k105134;k207214;rs075;rd112;vw17190;rp089;");
        for (String name : Face.NAMES) {
            callOften(x, name);
            long before = beans.getThreadAllocatedBytes(me);
            callOften(x, name);
            long made = beans.getThreadAllocatedBytes(me) - before;
            // The measuring makes a little itself; a single small object a call would be 1600 and more.
            checks.holds(name + " makes nothing, but made " + made + " bytes", made < 1000);
        }
        checks.end();
    }

    private static void callOften(FoughtFromMemory x, String name) {
        for (int i = 0; i < 100; i++) {
            Face.call(x, name, ARGUMENTS);
            x.letter('p');
            x.letter('0' + i % 10);
            x.row(i);
        }
    }
}
