/** Compares answers with those that are due, prints each one that is not, and ends with exit code 1 if there was one. */
final class Checks {
    private final String title;
    private int compared;
    private int wrong;

    Checks(String title) {
        this.title = title;
    }

    void due(String call, long got, long want) {
        compared++;
        if (got == want) return;
        wrong++;
        if (wrong <= 40) System.out.println(title + ": " + call + " answered " + got + ", due is " + want);
    }

    void end() {
        System.out.println(title + ": " + compared + " answers, " + wrong + " wrong");
        if (wrong != 0 || compared == 0) System.exit(1);
    }
}
