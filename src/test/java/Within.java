import java.lang.reflect.InvocationTargetException;

/**
 * Runs the main method of a test, and ends with 3 if that takes too long: a call that does not end (rule 7 of
 * LANGUAGE.md) is a fault to be told, not one to be waited for.
 */
public final class Within {
    private Within() {
    }

    public static void main(String[] args) throws ReflectiveOperationException {
        long seconds = Long.parseLong(args[0]);
        Thread watch = new Thread(() -> endBehind(seconds, args[1]));
        watch.setDaemon(true);
        watch.start();
        try {
            Class.forName(args[1]).getMethod("main", String[].class).invoke(null, (Object) new String[0]);
        } catch (InvocationTargetException e) {
            e.getCause().printStackTrace();
            System.exit(1);
        }
    }

    private static void endBehind(long seconds, String test) {
        try {
            Thread.sleep(seconds * 1000);
        } catch (InterruptedException e) {
            return;
        }
        System.out.println(test + ": no end behind " + seconds + " seconds");
        Runtime.getRuntime().halt(3);
    }
}
