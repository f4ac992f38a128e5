import java.lang.reflect.Method;
import java.lang.reflect.Modifier;
import java.util.ArrayList;
import java.util.Comparator;
import java.util.List;
import java.util.Random;

/** No call may throw, whatever its arguments and the state; and none may make objects, as all share one room. */
public final class AnyCallTest {
    private static final int[] EDGES = {Integer.MIN_VALUE, Integer.MIN_VALUE + 1, -1000, -3, -2, -1, 0, 1, 2, 7, 8, 9, 10,
        11, 12, 17, 18, 20, 27, 37, 38, 40, 41, 47, 48, 49, 60, 61, 140, 141, 240, 241, 255, 256, 260, 999, 1000, 9999,
        10000, 65535, 65536, 1 << 28, 1 << 30, 1 << 31, Integer.MAX_VALUE - 1, Integer.MAX_VALUE};

    private AnyCallTest() {
    }

    public static void main(String[] args) throws Exception {
        List<Method> calls = new ArrayList<>();
        for (Method method : EggTown.class.getDeclaredMethods()) {
            if (Modifier.isPublic(method.getModifiers())) {
                calls.add(method);
            }
        }
        calls.sort(Comparator.comparing(Method::getName));
        Random random = new Random(5);
        for (int run = 0; run < 400; run++) {
            EggTown x = run % 8 == 0 ? Towns.onDay(9990) : new EggTown();
            if (run % 2 == 0) {
                prepare(x, random);
            }
            if (run % 4 == 0) {
                x.days(6);
                x.keep();
            }
            for (int k = 0; k < 400; k++) {
                Method call = calls.get(random.nextInt(calls.size()));
                Object[] given = new Object[call.getParameterCount()];
                for (int j = 0; j < given.length; j++) {
                    given[j] = random.nextInt(3) == 0 ? random.nextInt(9) : EDGES[random.nextInt(EDGES.length)];
                }
                try {
                    call.invoke(x, given);
                    Checks.due(call.getName(), true, true);
                } catch (java.lang.reflect.InvocationTargetException e) {
                    Checks.due(call.getName() + java.util.Arrays.toString(given) + " threw " + e.getCause(), 1, 0);
                }
            }
        }
        room();
        Checks.end("AnyCallTest");
    }

    private static void prepare(EggTown x, Random random) {
        for (int p = 0; p < 8; p++) {
            x.person(p);
            x.hen(p, p % 4, p);
            x.work(p, 100 + 100 * p, 5, 50);
        }
        Checks.law(x, "l60+r(1=1);b9(k=1);h9(1=1);tm(1=1);p99/n(1=1);f3(1=1)");
        x.days(1 + random.nextInt(9));
        Checks.acts(x, "(0+1+2).,3!0,4>0");
    }

    /** The dearest calls, warm and again: what they make must be nothing. */
    private static void room() {
        com.sun.management.ThreadMXBean bean =
            (com.sun.management.ThreadMXBean) java.lang.management.ManagementFactory.getThreadMXBean();
        if (!bean.isThreadAllocatedMemorySupported()) {
            return;
        }
        long id = Thread.currentThread().getId();
        EggTown x = new EggTown();
        prepare(x, new Random(1));
        dear(x);
        long before = bean.getThreadAllocatedBytes(id);
        for (int k = 0; k < 10; k++) {
            dear(x);
        }
        long made = bean.getThreadAllocatedBytes(id) - before;
        Checks.due("bytes that 10 rounds of the dearest calls made, above 20000", Math.max(20000, made), 20000);
        long fresh = bean.getThreadAllocatedBytes(id);
        EggTown y = new EggTown();
        fresh = bean.getThreadAllocatedBytes(id) - fresh;
        Checks.due("bytes of a new object, above 40000: " + y.count(0), Math.max(40000, fresh), 40000);
    }

    private static void dear(EggTown x) {
        x.tried(60, 0);
        x.plan(0, 15, 0);
        x.before(0, 1, 40);
        x.flock(3, 12, 1);
        x.baskets(0, 120, 0);
        x.soonest(7, 8);
        x.barter(0, 1, 100, 100, 0);
        x.keep();
        x.undo();
        x.feed('l' << 24 | '1' << 16 | '(' << 8 | '1', '=' << 24 | '1' << 16 | ')' << 8, 0, 0, 0);
        x.law(7);
        x.feed('0' << 24 | '*' << 16, 0, 0, 0, 0);
        x.judged(2);
        x.feed(0x05060708, 0x090A0B0C, 0, 0, 0);
        x.rations(8, 3, 10);
        x.feed(0, 0, 0, 0, 0);
        x.hoards(5, 0);
        x.feed(0, 0, 0, 0, 0);
        x.check(5);
    }
}
