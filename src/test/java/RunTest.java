/** Promise 8: run. */
public final class RunTest {
    private static final Due due = new Due();

    public static void main(String[] args) {
        isRunning();
        readyBeginsAtItsEntry();
        readyHasItsArgument();
        anewUnderAnOldNumber();
        stoppedGoesOn();
        stoppedBeforeItsFirstStep();
        answers();
        busy();
        noSuchEnclave();
        neitherReadyNorStopped();
        busyComesFirst();
        due.finish();
    }

    private static void isRunning() {
        due.sentence("Enclave e runs on the processor, and is RUNNING");
        for (int p = 0; p < 2; p++) {
            for (int e = 0; e < 4; e++) {
                EnclaveGuards x = new EnclaveGuards(0);
                for (int k = 0; k < 4; k++) {
                    x.create(0, 1 + k, 1, 16 + 16 * k, -1);
                }
                due.is("run(" + p + ", " + e + ", 0)", x.run(p, e, 0), 0);
                due.is("running(" + p + ")", x.running(p), e);
                due.is("running(" + (1 - p) + ")", x.running(1 - p), -1);
                for (int k = 0; k < 4; k++) {
                    due.is("state(" + k + ")", x.state(k), k == e ? Scene.RUNNING : Scene.READY);
                }
            }
        }
    }

    private static void readyBeginsAtItsEntry() {
        due.sentence("if it was READY, with PC its entry");
        int[] entries = {32, 33, 47, 48, 63};
        for (int entry : entries) {
            EnclaveGuards x = new EnclaveGuards(0);
            for (int address = 32; address < 64; address++) {
                x.store(0, address, Words.exit(0));
            }
            x.store(0, entry, Words.exit(1));
            x.create(0, 2, 2, entry, -1);
            x.run(0, 0, 6);
            due.is("step(0, 100)", x.step(0, 100), 1);
            due.is("released(0) by the word at " + entry, x.released(0), 6);
        }
    }

    private static void readyHasItsArgument() {
        due.sentence("r1 the argument and the other registers 0");
        int[] arguments = {Integer.MIN_VALUE, -1, 0, 1, Integer.MAX_VALUE};
        for (int argument : arguments) {
            for (int k = 0; k < 8; k++) {
                EnclaveGuards x = Scene.ready(2, Words.exit(k));
                x.give(0, k, 44);
                x.run(0, 0, argument);
                x.step(0, 1);
                due.is("released(0) of r" + k, x.released(0), k == 1 ? argument : 0);
            }
        }
    }

    /** What ran under the number before must leave no register behind. */
    private static void anewUnderAnOldNumber() {
        due.sentence("r1 the argument and the other registers 0");
        for (int k = 0; k < 8; k++) {
            EnclaveGuards x = new EnclaveGuards(0);
            Words.put(x, 32, Scene.folding());
            x.create(0, 2, 2, 32, -1);
            x.run(0, 0, 9);
            due.is("step(0, 100)", x.step(0, 100), 8);
            x.destroy(0, 0);
            Words.put(x, 48, Words.exit(k));
            due.is("create", x.create(0, 3, 1, 48, -1), 0);
            x.run(1, 0, 3);
            due.is("step(1, 100)", x.step(1, 100), 1);
            due.is("released(0) of r" + k, x.released(0), k == 1 ? 3 : 0);
        }
    }

    private static EnclaveGuards stoppedByYield(int k) {
        EnclaveGuards x = Scene.ready(2, Words.set(k, 1, 100), Words.yield(), Words.set(k, k, 1000), Words.exit(k));
        x.run(0, 0, 5);
        x.step(0, 100);
        return x;
    }

    private static EnclaveGuards stoppedByInterrupt(int k) {
        EnclaveGuards x = Scene.ready(2, Words.set(k, 1, 100), Words.set(k, k, 1000), Words.exit(k));
        x.run(0, 0, 5);
        x.step(0, 1);
        x.interrupt(0);
        return x;
    }

    private static void stoppedGoesOn() {
        due.sentence("if it was STOPPED, with its registers and PC as they were");
        for (int k = 0; k < 8; k++) {
            for (int p = 0; p < 2; p++) {
                EnclaveGuards x = stoppedByYield(k);
                due.is("run behind a YIELD", x.run(p, 0, 7), 0);
                due.is("state(0)", x.state(0), Scene.RUNNING);
                due.is("the steps to its end", x.step(p, 100), 2);
                due.is("released(0) of r" + k, x.released(0), 1105);
                EnclaveGuards y = stoppedByInterrupt(k);
                due.is("run behind an interrupt", y.run(p, 0, 7), 0);
                due.is("the steps to its end", y.step(p, 100), 2);
                due.is("released(0) of r" + k, y.released(0), 1105);
            }
        }
        for (int k = 0; k < 8; k++) {
            EnclaveGuards x = Scene.ready(2, Words.yield(), Words.exit(k));
            x.run(0, 0, 5);
            x.step(0, 1);
            x.run(0, 0, 7);
            x.step(0, 1);
            due.is("released(0) of r" + k + ": the new argument does not count", x.released(0), k == 1 ? 5 : 0);
        }
    }

    private static void stoppedBeforeItsFirstStep() {
        due.sentence("if it was STOPPED, with its registers and PC as they were");
        EnclaveGuards x = Scene.ready(2, Words.exit(1));
        x.run(0, 0, 11);
        x.interrupt(0);
        x.run(1, 0, 12);
        x.interrupt(1);
        x.run(0, 0, 13);
        due.is("step(0, 100)", x.step(0, 100), 1);
        due.is("released(0)", x.released(0), 11);
    }

    private static void answers() {
        due.sentence("Answers 0");
        due.is("run of a READY one", Scene.inState(Scene.READY, 0).run(0, 0, 0), 0);
        due.is("run of a STOPPED one", Scene.inState(Scene.STOPPED, 0).run(0, 0, 0), 0);
        due.is("run of a STOPPED one, elsewhere", Scene.inState(Scene.STOPPED, 0).run(1, 0, 0), 0);
    }

    private static void busy() {
        due.sentence("-1 if the processor is BUSY");
        EnclaveGuards x = Scene.inState(Scene.RUNNING, 1);
        x.create(0, 4, 1, 64, -1);
        due.is("run(-1, 1, 0)", x.run(-1, 1, 0), -1);
        due.is("run(1, 1, 0)", x.run(1, 1, 0), -1);
        due.is("run(2, 1, 0)", x.run(2, 1, 0), -1);
        for (int p : Scene.FAR_OFF) {
            due.is("run(" + p + ", 1, 0)", x.run(p, 1, 0), -1);
        }
        due.is("running(1)", x.running(1), 0);
        due.is("state(1)", x.state(1), Scene.READY);
        due.is("run(0, 1, 0)", x.run(0, 1, 0), 0);
    }

    private static void noSuchEnclave() {
        due.sentence("else -2 if there is no such enclave");
        EnclaveGuards x = new EnclaveGuards(0);
        for (int e = 0; e < 4; e++) {
            due.is("run(0, " + e + ", 0), not made yet", x.run(0, e, 0), -2);
            x.create(0, 1 + e, 1, 16 + 16 * e, -1);
        }
        due.is("run(0, -1, 0)", x.run(0, -1, 0), -2);
        due.is("run(0, 4, 0)", x.run(0, 4, 0), -2);
        for (int e : Scene.FAR_OFF) {
            due.is("run(0, " + e + ", 0)", x.run(0, e, 0), -2);
        }
        x.destroy(0, 2);
        due.is("run(0, 2, 0), gone", x.run(0, 2, 0), -2);
        due.is("running(0)", x.running(0), -1);
        due.is("run(0, 3, 0)", x.run(0, 3, 0), 0);
        due.is("run(1, 0, 0)", x.run(1, 0, 0), 0);
    }

    private static void neitherReadyNorStopped() {
        due.sentence("or it is neither READY nor STOPPED");
        for (int state = Scene.READY; state <= Scene.FAULTED; state++) {
            boolean can = state == Scene.READY || state == Scene.STOPPED;
            EnclaveGuards x = Scene.inState(state, 1);
            due.is("run(0, 0, 0) in state " + state, x.run(0, 0, 0), can ? 0 : -2);
            due.is("state(0)", x.state(0), can ? Scene.RUNNING : state);
            due.is("running(0)", x.running(0), can ? 0 : -1);
        }
    }

    private static void busyComesFirst() {
        due.sentence("-1 if the processor is BUSY; else -2");
        EnclaveGuards x = Scene.inState(Scene.RUNNING, 1);
        int[] busy = {-1, 1, 2};
        int[] wrong = {-1, 0, 1, 3, 4};
        for (int p : busy) {
            for (int e : wrong) {
                due.is("run(" + p + ", " + e + ", 0)", x.run(p, e, 0), -1);
            }
        }
    }
}
