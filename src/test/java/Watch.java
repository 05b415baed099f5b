/** Ends a test that does not end by itself: no call may fail to. */
final class Watch {
    private Watch() {
    }

    static void start(int seconds) {
        Thread watch = new Thread(() -> {
            try {
                Thread.sleep(seconds * 1000L);
            } catch (InterruptedException e) {
                return;
            }
            System.out.println("not at its end behind " + seconds + " seconds");
            Runtime.getRuntime().halt(1);
        });
        watch.setDaemon(true);
        watch.start();
    }
}
