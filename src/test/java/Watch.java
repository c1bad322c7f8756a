/** Ends a test that has not ended by itself in time, and shows the call that it stands in. */
final class Watch implements Runnable {
    private final Thread watched;
    private final int seconds;

    Watch(Thread watched, int seconds) {
        this.watched = watched;
        this.seconds = seconds;
    }

    @Override
    public void run() {
        try {
            Thread.sleep(seconds * 1000L);
        } catch (InterruptedException e) {
            return;
        }
        System.out.println("has not ended after " + seconds + " seconds, and stands in");
        for (StackTraceElement call : watched.getStackTrace()) {
            System.out.println("  " + call);
        }
        Runtime.getRuntime().halt(1);
    }
}
