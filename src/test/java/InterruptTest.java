/** Promise 10: interrupt. */
public final class InterruptTest {
    private static final Due due = new Due();

    public static void main(String[] args) {
        isStopped();
        itsNumber();
        noSuchProcessor();
        runsTheSystem();
        due.finish();
    }

    private static void isStopped() {
        due.sentence("The enclave that runs on the processor is STOPPED");
        for (int p = 0; p < 2; p++) {
            EnclaveGuards x = Scene.ready(2, Words.set(2, 2, 5), Words.set(2, 2, 6), Words.exit(2));
            x.create(0, 4, 1, 64, -1);
            x.run(p, 0, 0);
            x.run(1 - p, 1, 0);
            x.step(p, 1);
            x.interrupt(p);
            due.is("state(0)", x.state(0), Scene.STOPPED);
            due.is("running(" + p + ")", x.running(p), -1);
            due.is("released(0)", x.released(0), EnclaveGuards.NONE);
            due.is("guard(" + p + ", 2, 1)", x.guard(p, 2, 1), 0);
            due.is("guard(" + p + ", 10, 1)", x.guard(p, 10, 1), 7);
            due.is("load(" + p + ", 32)", x.load(p, 32), EnclaveGuards.FAULT);
            due.is("state(1), which runs beside it", x.state(1), Scene.RUNNING);
            due.is("running(" + (1 - p) + ")", x.running(1 - p), 1);
            x.run(p, 0, 0);
            due.is("the steps to its end", x.step(p, 100), 2);
            due.is("released(0)", x.released(0), 11);
        }
    }

    private static void itsNumber() {
        due.sentence("its number");
        for (int p = 0; p < 2; p++) {
            EnclaveGuards x = new EnclaveGuards(0);
            for (int e = 0; e < 4; e++) {
                x.create(0, 1 + e, 1, 16 + 16 * e, -1);
            }
            for (int e = 0; e < 4; e++) {
                x.run(p, e, 0);
                due.is("interrupt(" + p + ") of " + e, x.interrupt(p), e);
            }
        }
    }

    private static void noSuchProcessor() {
        due.sentence("-1 if there is no such processor");
        EnclaveGuards x = Scene.inState(Scene.RUNNING, 0);
        x.create(1, 4, 1, 64, -1);
        x.run(1, 1, 0);
        due.is("interrupt(-1)", x.interrupt(-1), -1);
        due.is("interrupt(2)", x.interrupt(2), -1);
        for (int p : Scene.FAR_OFF) {
            due.is("interrupt(" + p + ")", x.interrupt(p), -1);
        }
        due.is("state(0)", x.state(0), Scene.RUNNING);
        due.is("state(1)", x.state(1), Scene.RUNNING);
        due.is("interrupt(0)", x.interrupt(0), 0);
        due.is("interrupt(1)", x.interrupt(1), 1);
    }

    private static void runsTheSystem() {
        due.sentence("or it runs the system");
        for (int state = Scene.READY; state <= Scene.FAULTED; state++) {
            for (int p = 0; p < 2; p++) {
                EnclaveGuards x = Scene.inState(state, p);
                due.is("interrupt(" + (1 - p) + ") beside one in state " + state, x.interrupt(1 - p), -1);
                due.is("state(0)", x.state(0), state);
                due.is("interrupt(" + p + ") of one in state " + state, x.interrupt(p), state == Scene.RUNNING ? 0 : -1);
                due.is("interrupt(" + p + ") again", x.interrupt(p), -1);
            }
        }
        EnclaveGuards x = new EnclaveGuards(0);
        due.is("interrupt(0) of a new object", x.interrupt(0), -1);
        due.is("interrupt(1) of a new object", x.interrupt(1), -1);
    }
}
