/** Terms: what BUSY means, for every call that names it. */
public final class BusyTest {
    private static final Due due = new Due();

    public static void main(String[] args) {
        noSuchProcessor();
        runsAnEnclave();
        isFreeAgain();
        due.finish();
    }

    /** A machine whose enclave 0 runs nowhere, 1 runs on this processor (if it is one), and 2 has ended. */
    private static EnclaveGuards machine(int runsOn) {
        EnclaveGuards x = new EnclaveGuards(0);
        Words.put(x, 200, 9);
        for (int e = 0; e < 3; e++) {
            x.create(0, 2 + e, 1, 16 * (2 + e), -1);
        }
        x.run(0, 2, 0);
        x.step(0, 1);
        if (runsOn >= 0) {
            x.run(runsOn, 1, 0);
        }
        return x;
    }

    /** Every call that names BUSY, on a processor that is it or is not. */
    private static void calls(String what, int runsOn, int p, boolean busy) {
        String on = " on processor " + p + ", " + what;
        due.is("load" + on, machine(runsOn).load(p, 200), busy ? EnclaveGuards.NONE : 9);
        due.is("store" + on, machine(runsOn).store(p, 200, 1), busy ? -1 : 0);
        due.is("give" + on, machine(runsOn).give(p, 0, 1), !busy);
        due.is("register" + on, machine(runsOn).register(p, 0), busy ? EnclaveGuards.NONE : 0);
        due.is("create" + on, machine(runsOn).create(p, 9, 1, 144, -1), busy ? -1 : 3);
        due.is("run" + on, machine(runsOn).run(p, 0, 0), busy ? -1 : 0);
        due.is("destroy" + on, machine(runsOn).destroy(p, 2), busy ? -1 : 0);
    }

    private static void noSuchProcessor() {
        due.sentence("BUSY means: there is no such processor");
        for (int p = -1; p <= 2; p++) {
            calls("none runs an enclave", -1, p, p < 0 || p > 1);
        }
        for (int p : Scene.FAR_OFF) {
            calls("none runs an enclave", -1, p, true);
        }
    }

    private static void runsAnEnclave() {
        due.sentence("or it runs an enclave");
        for (int p = 0; p < 2; p++) {
            calls("which runs an enclave", p, p, true);
            calls("beside one that runs an enclave", 1 - p, p, false);
        }
    }

    private static void isFreeAgain() {
        due.sentence("When an enclave is RUNNING no more, its processor runs the system.");
        int[] ends = {Words.exit(0), Words.yield(), Words.word(11, 0, 0, 0), Words.load(0, 0, 0), Words.store(0, 0, 0)};
        for (int p = 0; p < 2; p++) {
            for (int end : ends) {
                EnclaveGuards x = Scene.ready(2, end);
                x.run(p, 0, 0);
                due.is("give(" + p + ") before the end by " + end, x.give(p, 0, 1), false);
                x.step(p, 1);
                due.is("give(" + p + ") behind the end by " + end, x.give(p, 0, 1), true);
                due.is("running(" + p + ") behind the end by " + end, x.running(p), -1);
                due.is("guard(" + p + ", 10, 1) behind the end by " + end, x.guard(p, 10, 1), 7);
            }
            EnclaveGuards x = Scene.ready(2, Words.jump(7, 0, 31));
            x.run(p, 0, 0);
            x.step(p, 1);
            due.is("give(" + p + ") before a fetch that faults", x.give(p, 0, 1), false);
            x.step(p, 1);
            due.is("give(" + p + ") behind a fetch that faults", x.give(p, 0, 1), true);
            EnclaveGuards y = Scene.ready(2);
            y.run(p, 0, 0);
            y.interrupt(p);
            due.is("give(" + p + ") behind an interrupt", y.give(p, 0, 1), true);
            due.is("running(" + p + ") behind an interrupt", y.running(p), -1);
        }
    }
}
