import java.lang.reflect.Method;
import java.util.Arrays;

/**
 * Runs the main method of the class that its first argument names, with the other arguments, and
 * fails when it does not end: a call that hangs is to be a failed test, not a run without an end.
 */
final class Limited {
    private static final long MOST_MILLISECONDS = 600_000;

    public static void main(String[] args) throws Exception {
        Thread guard = new Thread(() -> failLater(args[0]));
        guard.setDaemon(true);
        guard.start();
        Method main = Class.forName(args[0]).getMethod("main", String[].class);
        main.invoke(null, (Object) Arrays.copyOfRange(args, 1, args.length));
    }

    private static void failLater(String name) {
        try {
            Thread.sleep(MOST_MILLISECONDS);
        } catch (InterruptedException e) {
            System.out.println("the guard of " + name + " was woken early");
        }
        System.out.println(name + " does not end");
        Runtime.getRuntime().halt(1);
    }
}
