/** Counts the answers that are not the ones that are due, and ends the test by them. */
final class Due {
    private int looked;
    private int wrong;

    void is(String call, long got, long want) {
        looked++;
        if (got != want) {
            wrong++;
            System.out.println(call + " answered " + got + ", due is " + want);
        }
    }

    void is(String call, boolean got, boolean want) {
        is(call, got ? 1L : 0L, want ? 1L : 0L);
    }

    void holds(String what, boolean holds) {
        is(what, holds, true);
    }

    boolean anyWrong() {
        return wrong != 0;
    }

    void finish() {
        System.out.println(looked + " answers, " + wrong + " of them not as due");
        // A test that looks at nothing must not pass.
        if (wrong != 0 || looked == 0) {
            System.exit(1);
        }
    }
}
