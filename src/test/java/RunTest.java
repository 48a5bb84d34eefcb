/** Promises 8, 10 and 16: run, interrupt and running. */
public final class RunTest {
    private static final Due due = new Due();

    public static void main(String[] args) {
        aReadyOneStartsAnew();
        aSecondEnclaveOfTheNumberStartsAnew();
        aStoppedOneGoesOn();
        onlyReadyAndStopped();
        refusals();
        interrupts();
        twoAtOnce();
        due.finish();
    }

    /** An enclave at page 2 that releases register k, entered at 36. */
    private static EnclaveGuards releasing(int k) {
        EnclaveGuards x = new EnclaveGuards(0);
        Words.put(x, 36, Words.exit(k));
        x.create(0, 2, 1, 36, -1);
        return x;
    }

    private static void aReadyOneStartsAnew() {
        for (int k = 0; k < 8; k++) {
            EnclaveGuards x = releasing(k);
            x.give(0, k, 44);
            due.is("run(0, 0, -17)", x.run(0, 0, -17), 0);
            due.is("state(0)", x.state(0), 2);
            due.is("running(0)", x.running(0), 0);
            due.is("running(1)", x.running(1), -1);
            due.is("step(0, 5)", x.step(0, 5), 1);
            due.is("released(0) of r" + k, x.released(0), k == 1 ? -17 : 0);
        }
    }

    private static void aSecondEnclaveOfTheNumberStartsAnew() {
        for (int k = 0; k < 8; k++) {
            EnclaveGuards x = new EnclaveGuards(0);
            Words.put(x, 32, Words.set(0, 0, 9), Words.set(1, 0, 9), Words.set(2, 0, 9), Words.set(3, 0, 9),
                Words.set(4, 0, 9), Words.set(5, 0, 9), Words.set(6, 0, 9), Words.set(7, 0, 9), Words.yield());
            x.create(0, 2, 1, 32, -1);
            x.run(0, 0, 0);
            due.is("step(0, 9)", x.step(0, 9), 9);
            x.destroy(0, 0);
            Words.put(x, 48, Words.exit(k));
            x.create(0, 3, 1, 48, -1);
            x.run(1, 0, 3);
            x.step(1, 1);
            due.is("released(0) of r" + k, x.released(0), k == 1 ? 3 : 0);
        }
    }

    private static void aStoppedOneGoesOn() {
        EnclaveGuards x = new EnclaveGuards(0);
        Words.put(x, 32, Words.set(2, 1, 100), Words.yield(), Words.add(2, 1), Words.set(2, 2, 1000), Words.exit(2));
        x.create(0, 2, 1, 32, -1);
        x.run(0, 0, 5);
        due.is("step(0, 100) to the yield", x.step(0, 100), 2);
        due.is("state(0)", x.state(0), 3);
        due.is("running(0)", x.running(0), -1);
        due.is("run(1, 0, 7)", x.run(1, 0, 7), 0);
        due.is("step(1, 1)", x.step(1, 1), 1);
        due.is("interrupt(1)", x.interrupt(1), 0);
        due.is("run(0, 0, 8)", x.run(0, 0, 8), 0);
        due.is("step(0, 100) to the exit", x.step(0, 100), 2);
        due.is("released(0)", x.released(0), 1110);
    }

    private static void onlyReadyAndStopped() {
        EnclaveGuards x = releasing(0);
        x.run(0, 0, 0);
        due.is("run of a RUNNING one", x.run(1, 0, 0), -2);
        due.is("running(1)", x.running(1), -1);
        x.step(0, 1);
        due.is("state(0)", x.state(0), 4);
        due.is("run of an EXITED one", x.run(0, 0, 0), -2);
        Words.put(x, 64, 15);
        x.create(0, 4, 1, 64, -1);
        x.run(0, 1, 0);
        x.step(0, 1);
        due.is("state(1)", x.state(1), 5);
        due.is("run of a FAULTED one", x.run(0, 1, 0), -2);
        x.destroy(0, 1);
        due.is("run of one that is gone", x.run(0, 1, 0), -2);
        due.is("running(0)", x.running(0), -1);
    }

    private static void refusals() {
        EnclaveGuards x = releasing(0);
        x.create(0, 4, 1, 64, -1);
        due.is("run(2, 0, 0)", x.run(2, 0, 0), -1);
        due.is("run(-1, 9, 0)", x.run(-1, 9, 0), -1);
        int[] wrong = {-1, 2, 3, 4, 5, Integer.MIN_VALUE, Integer.MAX_VALUE};
        for (int e : wrong) {
            due.is("run(0, " + e + ", 0)", x.run(0, e, 0), -2);
        }
        x.run(0, 0, 0);
        due.is("run(0, 1, 0) on a busy one", x.run(0, 1, 0), -1);
        due.is("run(0, 9, 0) on a busy one", x.run(0, 9, 0), -1);
        due.is("running(0)", x.running(0), 0);
        due.is("state(1)", x.state(1), 1);
        for (int p : Words.WRONG_NUMBERS) {
            due.is("running(" + p + ")", x.running(p), -2);
        }
        due.is("running(2)", x.running(2), -2);
    }

    private static void interrupts() {
        EnclaveGuards x = new EnclaveGuards(0);
        Words.put(x, 64, Words.set(2, 1, 0), Words.exit(2));
        x.create(0, 2, 1, 32, -1);
        x.create(0, 4, 1, 64, -1);
        for (int p : Words.WRONG_NUMBERS) {
            due.is("interrupt(" + p + ")", x.interrupt(p), -1);
        }
        due.is("interrupt(2)", x.interrupt(2), -1);
        due.is("interrupt(0) of the system", x.interrupt(0), -1);
        x.run(0, 1, 11);
        due.is("interrupt(1) of the system", x.interrupt(1), -1);
        due.is("state(1)", x.state(1), 2);
        due.is("interrupt(0)", x.interrupt(0), 1);
        due.is("state(1)", x.state(1), 3);
        due.is("running(0)", x.running(0), -1);
        due.is("released(1)", x.released(1), EnclaveGuards.NONE);
        due.is("guard(0, 4, 1)", x.guard(0, 4, 1), 0);
        due.is("guard(0, 10, 1)", x.guard(0, 10, 1), 7);
        due.is("interrupt(0) again", x.interrupt(0), -1);
        due.is("run(0, 1, 12): it had not made a step, and keeps its argument", x.run(0, 1, 12), 0);
        due.is("step(0, 9)", x.step(0, 9), 2);
        due.is("released(1)", x.released(1), 11);
    }

    private static void twoAtOnce() {
        EnclaveGuards x = new EnclaveGuards(0);
        Words.put(x, 32, Words.set(2, 2, 1), Words.exit(2));
        Words.put(x, 64, Words.set(2, 2, 2), Words.exit(2));
        x.create(0, 2, 1, 32, -1);
        x.create(0, 4, 1, 64, -1);
        due.is("run(1, 0, 0)", x.run(1, 0, 0), 0);
        due.is("run(0, 1, 0)", x.run(0, 1, 0), 0);
        due.is("running(0)", x.running(0), 1);
        due.is("running(1)", x.running(1), 0);
        due.is("step(0, 2)", x.step(0, 2), 2);
        due.is("running(0)", x.running(0), -1);
        due.is("running(1)", x.running(1), 0);
        due.is("step(1, 2)", x.step(1, 2), 2);
        due.is("released(0)", x.released(0), 1);
        due.is("released(1)", x.released(1), 2);
    }
}
