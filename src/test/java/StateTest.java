/** Promise 12: state. */
public final class StateTest {
    private static final Due due = new Due();

    public static void main(String[] args) {
        theState();
        ofEachNumber();
        noSuchNumber();
        due.finish();
    }

    private static void theState() {
        due.sentence("The STATE of enclave e");
        EnclaveGuards x = new EnclaveGuards(0);
        Words.put(x, 32, Words.yield(), Words.set(2, 2, 1), Words.exit(1));
        due.is("state(0), not there", x.state(0), 0);
        x.create(0, 2, 1, 32, -1);
        due.is("state(0), made", x.state(0), Scene.READY);
        x.run(0, 0, -5);
        due.is("state(0), run", x.state(0), Scene.RUNNING);
        x.step(0, 100);
        due.is("state(0), behind a YIELD", x.state(0), Scene.STOPPED);
        x.run(1, 0, 0);
        due.is("state(0), run again", x.state(0), Scene.RUNNING);
        x.step(1, 1);
        due.is("state(0), in the midst", x.state(0), Scene.RUNNING);
        x.interrupt(1);
        due.is("state(0), interrupted", x.state(0), Scene.STOPPED);
        x.run(0, 0, 0);
        x.step(0, 100);
        due.is("state(0), behind an EXIT", x.state(0), Scene.EXITED);
        x.destroy(0, 0);
        due.is("state(0), gone", x.state(0), 0);
        Words.put(x, 32, 13);
        x.create(0, 2, 1, 32, -1);
        due.is("state(0), a second one", x.state(0), Scene.READY);
        x.run(0, 0, 0);
        x.step(0, 1);
        due.is("state(0), behind a fault", x.state(0), Scene.FAULTED);
    }

    private static void ofEachNumber() {
        due.sentence("The STATE of enclave e");
        EnclaveGuards x = new EnclaveGuards(0);
        Scene.fourEnclaves(x);
        int[] want = {Scene.RUNNING, Scene.STOPPED, Scene.READY, Scene.EXITED};
        for (int e = 0; e < 4; e++) {
            due.is("state(" + e + ")", x.state(e), want[e]);
        }
    }

    private static void noSuchNumber() {
        due.sentence("-1 if e is not 0 .. 3");
        EnclaveGuards x = new EnclaveGuards(0);
        due.is("state(-1)", x.state(-1), -1);
        due.is("state(0)", x.state(0), 0);
        due.is("state(3)", x.state(3), 0);
        due.is("state(4)", x.state(4), -1);
        for (int e : Scene.FAR_OFF) {
            due.is("state(" + e + ")", x.state(e), -1);
        }
        for (int e = 0; e < 4; e++) {
            x.create(0, 1 + e, 1, 16 + 16 * e, -1);
        }
        due.is("state(-1), there are four", x.state(-1), -1);
        due.is("state(3), there are four", x.state(3), Scene.READY);
        due.is("state(4), there are four", x.state(4), -1);
    }
}
