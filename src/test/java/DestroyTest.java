/** Promise 11: destroy. */
public final class DestroyTest {
    private static final Due due = new Due();

    public static void main(String[] args) {
        wordsBecomeZero();
        pagesAreTheSystems();
        itIsThereNoMore();
        othersStay();
        answers();
        busy();
        noSuchEnclave();
        itIsRunning();
        busyBeforeNoSuchEnclave();
        busyBeforeRunning();
        due.finish();
    }

    private static void wordsBecomeZero() {
        due.sentence("All words of the enclave become 0");
        int[] firsts = {1, 3, 8};
        for (int first : firsts) {
            for (int pages = 1; pages <= 8; pages++) {
                EnclaveGuards x = new EnclaveGuards(0);
                for (int address = 16; address < 256; address++) {
                    x.store(0, address, 3);
                }
                x.create(0, first, pages, first * 16, -1);
                x.destroy(1, 0);
                for (int address = 16; address < 256; address++) {
                    boolean its = address >= first * 16 && address < (first + pages) * 16;
                    due.is("load(0, " + address + ") behind " + pages + " from " + first, x.load(0, address), its ? 0 : 3);
                }
            }
        }
        EnclaveGuards x = new EnclaveGuards(0);
        Words.put(x, 32, Words.store(1, 0, 47), Words.store(1, 0, 200), Words.exit(0));
        x.create(0, 2, 1, 32, 200);
        x.run(0, 0, 8);
        x.step(0, 3);
        x.destroy(0, 0);
        due.is("load(0, 47), which it stored to", x.load(0, 47), 0);
        due.is("load(0, 200), which it shared, is none of its words", x.load(0, 200), 8);
    }

    private static void pagesAreTheSystems() {
        due.sentence("its pages belong to the system");
        for (int pages = 1; pages <= 8; pages++) {
            EnclaveGuards x = new EnclaveGuards(0);
            x.create(0, 4, pages, 64, -1);
            x.create(0, 3, 1, 48, -1);
            x.create(0, 4 + pages, 1, 64 + 16 * pages, -1);
            x.destroy(0, 0);
            for (int page = 0; page < 16; page++) {
                int want = page == 0 ? 0 : page == 3 ? 3 : page == 4 + pages ? 4 : 1;
                due.is("owner(" + page + ") behind " + pages + " pages", x.owner(page), want);
            }
            due.is("store of its first word", x.store(0, 64, 1), 0);
            due.is("store of its last word", x.store(0, 63 + 16 * pages, 1), 0);
            due.is("store of the word before", x.store(0, 63, 1), 1);
            due.is("store of the word behind", x.store(0, 64 + 16 * pages, 1), 1);
        }
    }

    private static void itIsThereNoMore() {
        due.sentence("and it is there no more");
        for (int e = 0; e < 4; e++) {
            EnclaveGuards x = new EnclaveGuards(0);
            for (int k = 0; k < 4; k++) {
                x.create(0, 1 + 3 * k, 3, 16 + 48 * k, 250);
            }
            x.run(0, e, 0);
            x.step(0, 1);
            x.destroy(0, e);
            due.is("state(" + e + ")", x.state(e), 0);
            due.is("released(" + e + ")", x.released(e), EnclaveGuards.NONE);
            due.is("measurement(" + e + ")", x.measurement(e), EnclaveGuards.NONE);
            for (int which = 0; which < 3; which++) {
                due.is("guard(0, .., " + which + ")", x.guard(0, 1 + 2 * e, which), 0);
                due.is("guard(1, .., " + which + ")", x.guard(1, 2 + 2 * e, which), 0);
            }
            due.is("run(0, " + e + ", 0)", x.run(0, e, 0), -2);
            due.is("destroy(0, " + e + ")", x.destroy(0, e), -2);
            due.is("create: its number is free", x.create(0, 14, 1, 224, -1), e);
            due.is("state(" + e + ") of the new one", x.state(e), Scene.READY);
            due.is("released(" + e + ") of the new one", x.released(e), EnclaveGuards.NONE);
        }
    }

    private static void othersStay() {
        due.sentence("All words of the enclave become 0, its pages belong to the system, and it is there no more.");
        EnclaveGuards x = new EnclaveGuards(0);
        Words.put(x, 31, 5);
        Words.put(x, 48, Words.load(2, 0, 63), Words.exit(2));
        Words.put(x, 63, 6);
        x.create(0, 2, 1, 32, -1);
        x.create(0, 3, 1, 48, -1);
        long measured = x.measurement(1);
        x.run(1, 1, 0);
        due.is("destroy(0, 0) beside a running one", x.destroy(0, 0), 0);
        due.is("state(1)", x.state(1), Scene.RUNNING);
        due.is("running(1)", x.running(1), 1);
        due.is("measurement(1)", x.measurement(1), measured);
        due.is("owner(3)", x.owner(3), 3);
        due.is("guard(1, 4, 1)", x.guard(1, 4, 1), 7);
        due.is("load(0, 31)", x.load(0, 31), 5);
        due.is("load(0, 48)", x.load(0, 48), EnclaveGuards.FAULT);
        due.is("step(1, 100)", x.step(1, 100), 2);
        due.is("released(1)", x.released(1), 6);
    }

    private static void answers() {
        due.sentence("Answers 0");
        for (int p = 0; p < 2; p++) {
            due.is("destroy of a READY one", Scene.inState(Scene.READY, 0).destroy(p, 0), 0);
            due.is("destroy of a STOPPED one", Scene.inState(Scene.STOPPED, 0).destroy(p, 0), 0);
            due.is("destroy of an EXITED one", Scene.inState(Scene.EXITED, 0).destroy(p, 0), 0);
            due.is("destroy of a FAULTED one", Scene.inState(Scene.FAULTED, 0).destroy(p, 0), 0);
        }
        EnclaveGuards x = Scene.ready(2);
        x.run(0, 0, 0);
        x.interrupt(0);
        due.is("destroy of an interrupted one", x.destroy(0, 0), 0);
    }

    private static void busy() {
        due.sentence("-1 if the processor is BUSY");
        EnclaveGuards x = Scene.inState(Scene.RUNNING, 1);
        x.create(0, 4, 1, 64, -1);
        due.is("destroy(-1, 1)", x.destroy(-1, 1), -1);
        due.is("destroy(1, 1)", x.destroy(1, 1), -1);
        due.is("destroy(2, 1)", x.destroy(2, 1), -1);
        for (int p : Scene.FAR_OFF) {
            due.is("destroy(" + p + ", 1)", x.destroy(p, 1), -1);
        }
        due.is("state(1)", x.state(1), Scene.READY);
        due.is("destroy(0, 1)", x.destroy(0, 1), 0);
        x.interrupt(1);
        due.is("destroy(1, 0), busy no more", x.destroy(1, 0), 0);
    }

    private static void noSuchEnclave() {
        due.sentence("else -2 if there is no such enclave");
        EnclaveGuards x = new EnclaveGuards(0);
        for (int e = 0; e < 4; e++) {
            due.is("destroy(0, " + e + "), not made yet", x.destroy(0, e), -2);
            x.create(0, 1 + e, 1, 16 + 16 * e, -1);
        }
        due.is("destroy(0, -1)", x.destroy(0, -1), -2);
        due.is("destroy(0, 4)", x.destroy(0, 4), -2);
        for (int e : Scene.FAR_OFF) {
            due.is("destroy(0, " + e + ")", x.destroy(0, e), -2);
        }
        for (int e = 0; e < 4; e++) {
            due.is("state(" + e + ")", x.state(e), Scene.READY);
            due.is("destroy(0, " + e + ")", x.destroy(0, e), 0);
            due.is("destroy(0, " + e + ") again", x.destroy(0, e), -2);
        }
    }

    private static void itIsRunning() {
        due.sentence("else -3 if it is RUNNING");
        for (int p = 0; p < 2; p++) {
            for (int state = Scene.READY; state <= Scene.FAULTED; state++) {
                EnclaveGuards x = Scene.inState(state, p);
                int want = state == Scene.RUNNING ? -3 : 0;
                due.is("destroy(" + (1 - p) + ", 0) in state " + state, x.destroy(1 - p, 0), want);
                due.is("state(0)", x.state(0), state == Scene.RUNNING ? Scene.RUNNING : 0);
                due.is("running(" + p + ")", x.running(p), state == Scene.RUNNING ? 0 : -1);
            }
        }
        EnclaveGuards x = Scene.inState(Scene.RUNNING, 1);
        x.create(0, 4, 1, 64, -1);
        due.is("destroy(0, 1), the other runs", x.destroy(0, 1), 0);
        due.is("destroy(0, 0), this runs", x.destroy(0, 0), -3);
    }

    private static void busyBeforeNoSuchEnclave() {
        due.sentence("-1 if the processor is BUSY; else -2 if there is no such enclave");
        EnclaveGuards x = Scene.inState(Scene.RUNNING, 1);
        int[] busy = {-1, 1, 2};
        int[] wrong = {-1, 1, 3, 4};
        for (int p : busy) {
            for (int e : wrong) {
                due.is("destroy(" + p + ", " + e + ")", x.destroy(p, e), -1);
            }
        }
    }

    private static void busyBeforeRunning() {
        due.sentence("-1 if the processor is BUSY; else -2 if there is no such enclave; else -3 if it is RUNNING.");
        EnclaveGuards x = Scene.inState(Scene.RUNNING, 1);
        int[] busy = {-1, 1, 2};
        for (int p : busy) {
            due.is("destroy(" + p + ", 0)", x.destroy(p, 0), -1);
        }
        due.is("destroy(0, 0)", x.destroy(0, 0), -3);
    }
}
