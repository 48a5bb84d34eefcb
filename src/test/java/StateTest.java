/** Promises 12, 13 and 17: state, released and owner. */
public final class StateTest {
    private static final Due due = new Due();

    public static void main(String[] args) {
        statesAndWhatIsReleased();
        exitValues();
        wrongNumbers();
        owners();
        due.finish();
    }

    private static void looks(EnclaveGuards x, String when, int state, long released) {
        due.is("state(0) " + when, x.state(0), state);
        due.is("released(0) " + when, x.released(0), released);
        due.is("state(1) " + when, x.state(1), 0);
        due.is("released(1) " + when, x.released(1), EnclaveGuards.NONE);
    }

    private static void statesAndWhatIsReleased() {
        EnclaveGuards x = new EnclaveGuards(0);
        Words.put(x, 32, Words.yield(), Words.exit(1));
        looks(x, "not there", 0, EnclaveGuards.NONE);
        x.create(0, 2, 1, 32, -1);
        looks(x, "READY", 1, EnclaveGuards.NONE);
        x.run(0, 0, -5);
        looks(x, "RUNNING", 2, EnclaveGuards.NONE);
        x.step(0, 100);
        looks(x, "STOPPED", 3, EnclaveGuards.NONE);
        x.run(1, 0, 0);
        looks(x, "RUNNING again", 2, EnclaveGuards.NONE);
        x.step(1, 100);
        looks(x, "EXITED", 4, -5);
        x.destroy(0, 0);
        looks(x, "not there again", 0, EnclaveGuards.NONE);
        Words.put(x, 32, 13);
        x.create(0, 2, 1, 32, -1);
        looks(x, "READY, a second one", 1, EnclaveGuards.NONE);
        x.run(0, 0, 0);
        x.step(0, 1);
        looks(x, "FAULTED", 5, 4);
    }

    private static void exitValues() {
        int[] values = {0, 1, -1, Integer.MIN_VALUE, Integer.MAX_VALUE};
        for (int v : values) {
            EnclaveGuards x = new EnclaveGuards(0);
            Words.put(x, 32, Words.exit(1));
            x.create(0, 2, 1, 32, -1);
            x.run(0, 0, v);
            x.step(0, 1);
            due.is("released(0) of " + v, x.released(0), v);
        }
    }

    private static void wrongNumbers() {
        EnclaveGuards x = new EnclaveGuards(0);
        int[] wrong = {-1, 4, 5, Integer.MIN_VALUE, Integer.MAX_VALUE};
        for (int e : wrong) {
            due.is("state(" + e + ")", x.state(e), -1);
            due.is("released(" + e + ")", x.released(e), EnclaveGuards.NONE);
            due.is("measurement(" + e + ")", x.measurement(e), EnclaveGuards.NONE);
        }
        int[] wrongPages = {-1, 16, 17, 255, Integer.MIN_VALUE, Integer.MAX_VALUE};
        for (int page : wrongPages) {
            due.is("owner(" + page + ")", x.owner(page), -1);
        }
    }

    private static void owners() {
        EnclaveGuards x = new EnclaveGuards(0);
        int[] want = {0, 2, 3, 3, 1, 4, 4, 4, 1, 1, 1, 1, 5, 5, 5, 5};
        x.create(0, 1, 1, 16, -1);
        x.create(0, 2, 2, 32, -1);
        x.create(0, 5, 3, 80, 256 + 4);
        x.create(0, 12, 4, 192, -1);
        for (int page = 0; page < 16; page++) {
            due.is("owner(" + page + ")", x.owner(page), want[page]);
        }
        x.run(0, 2, 0);
        due.is("owner(5) while it runs", x.owner(5), 4);
        due.is("owner(4), its shared page", x.owner(4), 1);
        x.destroy(1, 1);
        due.is("owner(2) after destroy", x.owner(2), 1);
        due.is("owner(3) after destroy", x.owner(3), 1);
        due.is("owner(1) after destroy", x.owner(1), 2);
    }
}
