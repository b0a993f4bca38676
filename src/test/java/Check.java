/** Counts the answers that are not as due; close() ends a test with exit code 1 if there was one. */
final class Check {
    private final String name;
    private int asked;
    private int wrong;

    Check(String name) {
        this.name = name;
    }

    void due(String call, int got, int want) {
        asked++;
        if (got != want) {
            wrong++;
            System.out.println(name + ": " + call + " answered " + got + ", due is " + want);
        }
    }

    /** A call that is refused, with what it answers then and the reason that status() tells. */
    void refused(String call, BusBridge x, int got, int want, int reason) {
        due(call, got, want);
        due(call + ", then status()", x.status(), reason);
    }

    /** A call that answers the reason by which it is refused. */
    void refused(String call, BusBridge x, int got, int reason) {
        refused(call, x, got, reason, reason);
    }

    /** A call that is not refused. */
    void well(String call, BusBridge x, int got, int want) {
        refused(call, x, got, want, 0);
    }

    boolean isClean() {
        return wrong == 0;
    }

    void close() {
        System.out.println(name + ": " + asked + " answers, " + wrong + " not as due");
        if (wrong != 0) {
            System.exit(1);
        }
    }
}
