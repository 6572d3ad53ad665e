/**
 * Runs the main method of a test, whose name is its argument, and ends it with exit code 1 if it takes too long: so a
 * call that never ends fails the test instead of holding up all others.
 */
final class Limit {
    private static final long MOST_MILLISECONDS = 300_000;

    private Limit() {
    }

    public static void main(String[] args) throws ReflectiveOperationException {
        Thread watch = new Thread(() -> endWhenTooLong(args[0]));
        watch.setDaemon(true);
        watch.start();
        Class.forName(args[0]).getMethod("main", String[].class).invoke(null, (Object) new String[0]);
    }

    private static void endWhenTooLong(String name) {
        try {
            Thread.sleep(MOST_MILLISECONDS);
            System.out.println(name + " did not end in " + MOST_MILLISECONDS / 1000 + " seconds");
        } catch (InterruptedException none) {
            System.out.println(name + " was broken off");
        }
        System.out.flush();
        Runtime.getRuntime().halt(1);
    }
}
