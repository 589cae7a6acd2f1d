import java.lang.management.ManagementFactory;
import java.lang.reflect.InvocationTargetException;
import java.lang.reflect.Method;
import java.lang.reflect.Modifier;
import java.util.Random;

/** No call throws, whatever its numbers are and however many calls went before; and calls make no objects. */
public final class WildCallsTest {
    private static final int[] NUMBERS = {
        Integer.MIN_VALUE, -100001, -1001, -51, -9, -2, -1, 0, 0, 0, 1, 1, 2, 3, 4, 5, 6, 7, 8, 9, 50, 60, 61, 200, 250, 500, 501, 1001, 100001, Integer.MAX_VALUE};
    private static final Check CHECK = new Check("WildCallsTest");

    public static void main(String[] args) throws Exception {
        for (int seed = 0; seed < 60; seed++) {
            wildRun(seed);
        }
        callsMakeNoObjects();
        CHECK.end();
    }

    private static void wildRun(int seed) throws Exception {
        Random random = new Random(seed);
        CrateHelpers x = new CrateHelpers();
        Method[] all = CrateHelpers.class.getDeclaredMethods();
        int calls = seed % 10 == 0 ? 20000 : 2000;
        for (int n = 0; n < calls; n++) {
            Method m = all[random.nextInt(all.length)];
            if (!Modifier.isPublic(m.getModifiers())) {
                continue;
            }
            Object[] numbers = new Object[m.getParameterCount()];
            for (int i = 0; i < numbers.length; i++) {
                numbers[i] = random.nextInt(3) == 0 ? NUMBERS[random.nextInt(NUMBERS.length)] : random.nextInt(4);
            }
            try {
                m.invoke(x, numbers);
            } catch (InvocationTargetException e) {
                CHECK.holds("seed " + seed + ", call " + n + " of " + m.getName() + " threw " + e.getCause(), false);
            }
        }
        CHECK.holds("the run came to its end", true);
    }

    private static void callsMakeNoObjects() {
        if (!(ManagementFactory.getThreadMXBean() instanceof com.sun.management.ThreadMXBean bean)) {
            return;
        }
        CrateHelpers x = Samples.odd();
        long before = bean.getThreadAllocatedBytes(Thread.currentThread().getId());
        for (int i = 0; i < 100; i++) {
            x.solve(0, 500);
            x.second(0, 60);
            x.same(0, 5);
            x.ask(0);
            x.node(3, 0, 0);
        }
        long made = bean.getThreadAllocatedBytes(Thread.currentThread().getId()) - before;
        CHECK.holds("500 dear calls made " + made + " bytes of objects", made < 100000);
    }
}
