/** Every call ends: a test that is still at it after so many minutes has failed. */
final class Ends {
    private static final long MINUTES = 15;

    private Ends() {
    }

    static void inTime() {
        Thread watch = new Thread(Ends::giveUp);
        watch.setDaemon(true);
        watch.start();
    }

    private static void giveUp() {
        try {
            Thread.sleep(MINUTES * 60 * 1000);
        } catch (InterruptedException e) {
            return;
        }
        System.out.println("a call doesn't end");
        Runtime.getRuntime().halt(1);
    }
}
