/** Promise 16: running. */
public final class RunningTest {
    private static final Due due = new Due();

    public static void main(String[] args) {
        theEnclave();
        theSystem();
        noSuchProcessor();
        due.finish();
    }

    private static void theEnclave() {
        due.sentence("The enclave that runs on the processor");
        for (int on0 = 0; on0 < 4; on0++) {
            for (int on1 = 0; on1 < 4; on1++) {
                EnclaveGuards x = new EnclaveGuards(0);
                for (int e = 0; e < 4; e++) {
                    x.create(0, 1 + e, 1, 16 + 16 * e, -1);
                }
                x.run(0, on0, 0);
                x.run(1, on1, 0);
                due.is("running(0)", x.running(0), on0);
                due.is("running(1)", x.running(1), on0 == on1 ? -1 : on1);
            }
        }
    }

    private static void theSystem() {
        due.sentence("-1 if it runs the system");
        EnclaveGuards x = new EnclaveGuards(0);
        due.is("running(0) of a new object", x.running(0), -1);
        due.is("running(1) of a new object", x.running(1), -1);
        for (int state = Scene.READY; state <= Scene.FAULTED; state++) {
            for (int p = 0; p < 2; p++) {
                EnclaveGuards y = Scene.inState(state, p);
                due.is("running(" + p + ") in state " + state, y.running(p), state == Scene.RUNNING ? 0 : -1);
                due.is("running(" + (1 - p) + ") in state " + state, y.running(1 - p), -1);
                y.interrupt(p);
                due.is("running(" + p + ") behind an interrupt", y.running(p), -1);
            }
        }
    }

    private static void noSuchProcessor() {
        due.sentence("-2 if there is no such processor");
        EnclaveGuards x = new EnclaveGuards(0);
        Scene.bothBusy(x);
        due.is("running(-1)", x.running(-1), -2);
        due.is("running(0)", x.running(0), 1);
        due.is("running(1)", x.running(1), 0);
        due.is("running(2)", x.running(2), -2);
        for (int p : Scene.FAR_OFF) {
            due.is("running(" + p + ")", x.running(p), -2);
        }
    }
}
