/** Counts the answers that are not as due; every test of the project ends with end(). */
final class Check {
    static final int LEAST_INT = Integer.MIN_VALUE;
    /** BAD and NOT, where the answer is a long. */
    static final long LONG_BAD = Long.MIN_VALUE + 2;
    static final long LONG_NOT = Long.MIN_VALUE + 3;

    private static final long LONGEST_MILLIS = 300_000;

    private final String promise;
    private static int asked = 0;
    private static int wrong = 0;

    static {
        endInTime();
    }

    Check(String promise) {
        this.promise = promise;
    }

    /** A call that never ends would hold up .ci/run for ever. */
    private static void endInTime() {
        Thread watch = new Thread(() -> {
            try {
                Thread.sleep(LONGEST_MILLIS);
                System.out.println("a call did not end");
                Runtime.getRuntime().halt(1);
            } catch (InterruptedException e) {
                Thread.currentThread().interrupt();
            }
        });
        watch.setDaemon(true);
        watch.start();
    }

    void due(String call, long got, long want) {
        asked++;
        if (got != want) {
            wrong++;
            System.out.println(promise + ": " + call + " answered " + got + ", due is " + want);
        }
    }

    void holds(String what, boolean so) {
        due(what, so ? 1 : 0, 1);
    }

    static void end() {
        System.out.println(asked + " answers, " + wrong + " not as due");
        if (wrong != 0 || asked == 0) {
            System.exit(1);
        }
    }
}
