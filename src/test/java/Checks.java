/** Compares answers with those that are due, prints each one that is not, and ends with exit code 1 if there was one. */
final class Checks {
    /** Far above what a test needs, also where the machine is slow. */
    private static final long TOO_LONG = 240_000;

    private final String title;
    private int compared;
    private int wrong;

    Checks(String title) {
        this.title = title;
        Thread watch = new Thread(this::endAtLast);
        watch.setDaemon(true);
        watch.start();
    }

    /** A call that does not end is a failure, and not one that .ci/run should wait for. */
    private void endAtLast() {
        try {
            Thread.sleep(TOO_LONG);
        } catch (InterruptedException e) {
            return;
        }
        System.out.println(title + ": did not end");
        Runtime.getRuntime().halt(1);
    }

    void due(String call, long got, long want) {
        compared++;
        if (got == want) return;
        wrong++;
        if (wrong <= 40) System.out.println(title + ": " + call + " answered " + got + ", due is " + want);
    }

    void end() {
        System.out.println(title + ": " + compared + " answers, " + wrong + " wrong");
        if (wrong != 0 || compared == 0) System.exit(1);
    }
}
