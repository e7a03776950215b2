import java.lang.reflect.Method;

/** Runs the test that is named first, in a bounded time: one that does not end fails, whoever wrote it. */
public final class Bounded {
    /** A test needs some seconds. */
    private static final long MOST_SECONDS = 240;

    private Bounded() {
    }

    public static void main(String[] args) throws ReflectiveOperationException {
        long seconds = args.length > 1 ? Long.parseLong(args[1]) : MOST_SECONDS;
        Thread watch = new Thread(() -> endLate(args[0], seconds));
        watch.setDaemon(true);
        watch.start();
        Method test = Class.forName(args[0]).getDeclaredMethod("main", String[].class);
        test.setAccessible(true);
        test.invoke(null, (Object) new String[0]);
    }

    private static void endLate(String name, long seconds) {
        try {
            Thread.sleep(1000 * seconds);
        } catch (InterruptedException e) {
            return;
        }
        System.out.println(name + " did not end within " + seconds + " seconds");
        Runtime.getRuntime().halt(1);
    }
}
