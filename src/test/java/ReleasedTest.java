/** Promise 13: released. */
public final class ReleasedTest {
    private static final Due due = new Due();

    public static void main(String[] args) {
        whatItReleased();
        ofEachNumber();
        neitherExitedNorFaulted();
        notThere();
        due.finish();
    }

    private static void whatItReleased() {
        due.sentence("What enclave e released");
        int[] ints = {Integer.MIN_VALUE, -1, 0, 1, Integer.MAX_VALUE};
        for (int v : ints) {
            EnclaveGuards x = Scene.ready(2, Words.exit(1));
            x.run(0, 0, v);
            x.step(0, 1);
            due.is("released(0) of " + v, x.released(0), v);
            due.is("released(0), asked again", x.released(0), v);
        }
        int[] faulting = {Words.jump(2, 0, 0), Words.load(2, 0, 0), Words.store(2, 0, 0), 11};
        for (int fault = 1; fault <= 4; fault++) {
            EnclaveGuards x = Scene.ready(2, faulting[fault - 1]);
            x.run(0, 0, 9);
            x.step(0, 2);
            due.is("released(0) of a fault", x.released(0), fault);
        }
    }

    private static void ofEachNumber() {
        due.sentence("What enclave e released");
        EnclaveGuards x = new EnclaveGuards(0);
        for (int e = 0; e < 4; e++) {
            Words.put(x, 16 + 16 * e, e == 2 ? 15 : Words.exit(1));
            x.create(0, 1 + e, 1, 16 + 16 * e, -1);
        }
        for (int e = 0; e < 4; e++) {
            x.run(0, e, 100 + e);
            x.step(0, 1);
            for (int k = 0; k < 4; k++) {
                long want = k > e ? EnclaveGuards.NONE : k == 2 ? 4 : 100 + k;
                due.is("released(" + k + ") when " + e + " has ended", x.released(k), want);
            }
        }
    }

    private static void neitherExitedNorFaulted() {
        due.sentence("NONE if it is neither EXITED nor FAULTED");
        for (int state = Scene.READY; state <= Scene.FAULTED; state++) {
            long want = state == Scene.EXITED ? 77 : state == Scene.FAULTED ? 4 : EnclaveGuards.NONE;
            due.is("released(0) in state " + state, Scene.inState(state, 0).released(0), want);
        }
        EnclaveGuards x = Scene.inState(Scene.EXITED, 0);
        x.destroy(0, 0);
        x.create(0, 2, 1, 32, -1);
        due.is("released(0), a READY one under the number of an EXITED one", x.released(0), EnclaveGuards.NONE);
        x.run(0, 0, 0);
        due.is("released(0), when it is RUNNING", x.released(0), EnclaveGuards.NONE);
        x.interrupt(0);
        due.is("released(0), when it is STOPPED", x.released(0), EnclaveGuards.NONE);
    }

    private static void notThere() {
        due.sentence("or not there");
        EnclaveGuards x = new EnclaveGuards(0);
        for (int e = -1; e <= 4; e++) {
            due.is("released(" + e + ") of a new object", x.released(e), EnclaveGuards.NONE);
        }
        for (int e : Scene.FAR_OFF) {
            due.is("released(" + e + ")", x.released(e), EnclaveGuards.NONE);
        }
        for (int state = Scene.EXITED; state <= Scene.FAULTED; state++) {
            EnclaveGuards y = Scene.inState(state, 0);
            y.destroy(0, 0);
            due.is("released(0), gone", y.released(0), EnclaveGuards.NONE);
        }
        EnclaveGuards y = new EnclaveGuards(0);
        for (int e = 0; e < 4; e++) {
            y.create(0, 1 + e, 1, 16 + 16 * e, -1);
            y.run(0, e, 0);
            y.step(0, 1);
        }
        due.is("released(-1), there are four", y.released(-1), EnclaveGuards.NONE);
        due.is("released(0), there are four", y.released(0), 0);
        due.is("released(3), there are four", y.released(3), 0);
        due.is("released(4), there are four", y.released(4), EnclaveGuards.NONE);
    }
}
