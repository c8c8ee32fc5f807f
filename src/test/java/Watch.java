/** Ends a test that does not end: a class that hangs fails, too. */
final class Watch {
    private static final long MOST_MILLIS = 240_000;

    private Watch() { }

    static void start(String test) {
        Thread watch = new Thread(() -> {
            try {
                Thread.sleep(MOST_MILLIS);
            } catch (InterruptedException e) {
                return;
            }
            System.out.println(test + ": does not end");
            Runtime.getRuntime().halt(1);
        });
        watch.setDaemon(true);
        watch.start();
    }
}
