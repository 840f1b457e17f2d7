import java.util.Arrays;
import java.util.Random;

/** Any arguments in any state, behind the 512th call too: every call comes back, and none of them throws. */
public final class AnyArgumentsTest {
    private static final int[] ODD = {Integer.MIN_VALUE, Integer.MIN_VALUE + 1, -1000, -10, -9, -2, -1, 0, 1, 2, 5, 7, 8, 9,
        10, 20, 21, 24, 25, 26, 60, 61, 95, 96, 97, 99, 100, 255, 256, 999, 1000, Integer.MAX_VALUE - 1, Integer.MAX_VALUE};

    private AnyArgumentsTest() {
    }

    public static void main(String[] args) {
        Checks checks = new Checks("AnyArgumentsTest");
        for (int run = 0; run < 40; run++) {
            Random random = new Random(run);
            FoughtFromMemory x = new FoughtFromMemory();
            if (run % 2 == 1) {
                Checks.tell(x, "p1;p4;p9;p7;p2;k000249;k105134;k207214;k300092;k420249;rs075;rd112;vw17190;rp089;");
            }
            for (int i = 0; i < 2000; i++) {
                int which = random.nextInt(Face.NAMES.length);
                int[] a = new int[Face.ARGUMENTS[which].length()];
                for (int j = 0; j < a.length; j++) {
                    a[j] = random.nextInt(3) == 0 ? ODD[random.nextInt(ODD.length)] : random.nextInt(6);
                }
                try {
                    Face.call(x, Face.NAMES[which], a);
                    checks.holds("came back", true);
                } catch (RuntimeException | StackOverflowError e) {
                    checks.holds(Face.NAMES[which] + Arrays.toString(a) + " came back, but " + e, false);
                }
            }
        }
        checks.end();
    }
}
