import java.lang.reflect.InvocationTargetException;

/**
 * Runs the test whose name it is given, and fails if that has not ended in time: a call that never ends is a fault
 * like any other, and must not hold up those who wait for the tests.
 */
public final class Limit {
    private static final int SECONDS = 300;

    public static void main(String[] args) throws Throwable {
        int seconds = args.length > 1 ? Integer.parseInt(args[1]) : SECONDS;
        Thread watch = new Thread(() -> stopBehind(args[0], seconds));
        watch.setDaemon(true);
        watch.start();
        try {
            Class.forName(args[0]).getMethod("main", String[].class).invoke(null, (Object) new String[0]);
        } catch (InvocationTargetException thrown) {
            throw thrown.getCause();
        }
    }

    private static void stopBehind(String test, int seconds) {
        try {
            Thread.sleep(seconds * 1000L);
        } catch (InterruptedException woken) {
            return;
        }
        System.out.println(test + " has not ended in " + seconds + " seconds");
        Runtime.getRuntime().halt(1);
    }
}
