import java.lang.management.ManagementFactory;
import java.lang.reflect.Method;
import java.lang.reflect.Modifier;
import java.util.ArrayList;
import java.util.Comparator;
import java.util.List;
import java.util.Random;

/** No call throws, whatever comes, in whatever state; the same calls give the same answers; and a run stays in its room. */
public final class EndureTest {
    private static final long ROOM_IN_ELEMENTS = 7_300_000;

    public static void main(String[] args) throws ReflectiveOperationException {
        List<Method> calls = new ArrayList<>();
        for (Method m : GlassHouse.class.getDeclaredMethods()) {
            if (Modifier.isPublic(m.getModifiers())) calls.add(m);
        }
        calls.sort(Comparator.comparing(Method::getName));
        for (int seed = 0; seed < 1500; seed++) {
            long[] first = oneRun(calls, seed);
            if (seed % 10 == 0) Check.all("the same calls", oneRun(calls, seed), first);
        }
        staysInItsRoom();
        Check.end();
    }

    private static long[] oneRun(List<Method> calls, int seed) throws ReflectiveOperationException {
        Random random = new Random(seed);
        GlassHouse x = new GlassHouse();
        long[] answers = new long[512];
        for (int i = 0; i < 512; i++) {
            Method call = calls.get(random.nextInt(calls.size()));
            // Steps and runs need many calls together, or hardly any plan would ever be well formed.
            if (random.nextInt(4) == 0) call = named(calls, random.nextInt(4) == 0 ? "run" : "step");
            Class<?>[] types = call.getParameterTypes();
            Object[] arguments = new Object[types.length];
            for (int k = 0; k < types.length; k++) arguments[k] = argument(types[k], random);
            answers[i] = ((Number) call.invoke(x, arguments)).longValue();
        }
        return answers;
    }

    private static Method named(List<Method> calls, String name) {
        for (Method m : calls) if (m.getName().equals(name)) return m;
        return null;
    }

    private static Object argument(Class<?> type, Random random) {
        if (type == boolean.class) return random.nextBoolean();
        if (type == long.class) {
            switch (random.nextInt(4)) {
                case 0: return random.nextLong();
                case 1: return Double.doubleToLongBits(random.nextInt(40));
                default: return (long) small(random);
            }
        }
        return small(random);
    }

    private static int small(Random random) {
        switch (random.nextInt(30)) {
            case 0: return random.nextInt();
            case 1: return random.nextBoolean() ? Integer.MAX_VALUE : Integer.MIN_VALUE;
            case 2: return -random.nextInt(4);
            case 3: case 4: case 5: case 6: return random.nextInt(70);
            case 7: case 8: case 9: case 10: case 11: case 12: return random.nextInt(21);
            default: return random.nextInt(5);
        }
    }

    /** The dearest calls in turn: copies of full storeys, runs up to the last step, many minutes. */
    private static void staysInItsRoom() {
        com.sun.management.ThreadMXBean threads = (com.sun.management.ThreadMXBean) ManagementFactory.getThreadMXBean();
        long id = Thread.currentThread().getId();
        long before = threads.getThreadAllocatedBytes(id);
        GlassHouse x = new GlassHouse();
        x.storeys(0, 4);
        x.grid(1, 9, 10, 40, false);
        for (int i = 0; i < 4; i++) x.set(0, i, 1);
        x.setStock(0, 1);
        int[] steps = {20, 14, 15, 11, 1, 0, 0, 0, 0};
        for (int op : steps) x.step(0, op, op == 20 ? 0 : 1, 0, 0);
        for (int i = 0; i < 200; i++) {
            Check.due("a run up to the last step", x.run(0), -30);
            x.minute(100);
        }
        for (int i = 0; i < 90; i++) x.copy(2, 0, true);
        long bytes = threads.getThreadAllocatedBytes(id) - before;
        Check.due("things", x.told(1), 12 + 89 * 45);
        Check.holds("room: " + bytes + " bytes", bytes < ROOM_IN_ELEMENTS);
    }
}
