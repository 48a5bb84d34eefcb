/** Promise 6: register. */
public final class RegisterTest {
    private static final Due due = new Due();

    public static void main(String[] args) {
        theRegister();
        noneIfBusy();
        noneIfNoRegister();
        bothAtOnce();
        due.finish();
    }

    private static void theRegister() {
        due.sentence("The system's register k on a processor");
        EnclaveGuards x = new EnclaveGuards(0);
        int[] values = {Integer.MIN_VALUE, -1, 0, 1, Integer.MAX_VALUE, 7, -7, 1 << 20};
        for (int k = 0; k < 8; k++) {
            x.give(0, k, values[k]);
            x.give(1, k, values[7 - k]);
        }
        for (int k = 0; k < 8; k++) {
            due.is("register(0, " + k + ")", x.register(0, k), values[k]);
            due.is("register(1, " + k + ")", x.register(1, k), values[7 - k]);
        }
    }

    private static void noneIfBusy() {
        due.sentence("NONE if it is BUSY");
        EnclaveGuards x = Scene.inState(Scene.RUNNING, 1);
        due.is("register(-1, 3)", x.register(-1, 3), EnclaveGuards.NONE);
        due.is("register(0, 3)", x.register(0, 3), 0);
        due.is("register(1, 3)", x.register(1, 3), EnclaveGuards.NONE);
        due.is("register(2, 3)", x.register(2, 3), EnclaveGuards.NONE);
        for (int p : Scene.FAR_OFF) {
            due.is("register(" + p + ", 3)", x.register(p, 3), EnclaveGuards.NONE);
        }
        x.interrupt(1);
        due.is("register(1, 1), busy no more", x.register(1, 1), 0);
    }

    private static void noneIfNoRegister() {
        due.sentence("or k is not 0 .. 7");
        EnclaveGuards x = new EnclaveGuards(0);
        for (int p = 0; p < 2; p++) {
            due.is("register(" + p + ", -1)", x.register(p, -1), EnclaveGuards.NONE);
            due.is("register(" + p + ", 0)", x.register(p, 0), 0);
            due.is("register(" + p + ", 7)", x.register(p, 7), 0);
            due.is("register(" + p + ", 8)", x.register(p, 8), EnclaveGuards.NONE);
            for (int k : Scene.FAR_OFF) {
                due.is("register(" + p + ", " + k + ")", x.register(p, k), EnclaveGuards.NONE);
            }
        }
    }

    private static void bothAtOnce() {
        due.sentence("NONE if it is BUSY or k is not 0 .. 7.");
        EnclaveGuards x = Scene.inState(Scene.RUNNING, 1);
        int[] busy = {-1, 1, 2};
        for (int p : busy) {
            due.is("register(" + p + ", -1)", x.register(p, -1), EnclaveGuards.NONE);
            due.is("register(" + p + ", 8)", x.register(p, 8), EnclaveGuards.NONE);
        }
    }
}
