import java.lang.reflect.Method;

/** Runs the main method of a test, and fails it if it does not end in time: a call that never ends is a fault too. */
public final class Limited {
    private static final long MILLISECONDS = 180_000;
    private static final int DOES_NOT_END = 3;

    public static void main(String[] args) throws ReflectiveOperationException {
        Thread watch = new Thread(() -> endInTime(args[0]));
        watch.setDaemon(true);
        watch.start();
        Method main = Class.forName(args[0]).getDeclaredMethod("main", String[].class);
        main.setAccessible(true);
        main.invoke(null, (Object) new String[0]);
    }

    private static void endInTime(String test) {
        try {
            Thread.sleep(MILLISECONDS);
        } catch (InterruptedException interrupted) {
            return;
        }
        System.out.println(test + " does not end");
        Runtime.getRuntime().halt(DOES_NOT_END);
    }
}
