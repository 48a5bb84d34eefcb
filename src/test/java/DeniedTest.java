/** Promise 4: denied. */
public final class DeniedTest {
    private static final Due due = new Due();

    public static void main(String[] args) {
        loadsAndStoresThatWereNotAllowed();
        ofTheSystem();
        refusalsAreNotCounted();
        itIsNeverForgotten();
        due.finish();
    }

    private static void loadsAndStoresThatWereNotAllowed() {
        due.sentence("How many loads and stores of the system (load and store) were not allowed.");
        EnclaveGuards x = Scene.ready(2);
        due.is("denied() at first", x.denied(), 0);
        int[] closed = {-1, 0, 15, 32, 47, 256, Integer.MIN_VALUE, Integer.MAX_VALUE};
        int want = 0;
        for (int address : closed) {
            x.load(0, address);
            due.is("denied() behind load(0, " + address + ")", x.denied(), ++want);
            x.store(1, address, 1);
            due.is("denied() behind store(1, " + address + ")", x.denied(), ++want);
        }
        int[] open = {16, 31, 48, 255};
        for (int address : open) {
            x.load(0, address);
            x.store(1, address, 1);
            due.is("denied() behind what is allowed", x.denied(), want);
        }
        due.is("denied(), asked again", x.denied(), want);
    }

    private static void ofTheSystem() {
        due.sentence("of the system (load and store)");
        int[] faulting = {Words.load(2, 0, 0), Words.store(2, 0, 0), Words.jump(2, 0, 0), 15, Words.load(2, 0, 256)};
        for (int word : faulting) {
            EnclaveGuards x = Scene.ready(2, word);
            x.run(0, 0, 0);
            x.step(0, 2);
            due.is("state(0)", x.state(0), Scene.FAULTED);
            due.is("denied() behind a fault of an enclave", x.denied(), 0);
        }
    }

    private static void refusalsAreNotCounted() {
        due.sentence("A call that answers a refusal (less than 0, false, NONE) changes nothing.");
        EnclaveGuards x = Scene.inState(Scene.RUNNING, 1);
        x.load(1, 0);
        x.load(2, 0);
        x.load(-1, 32);
        x.store(1, 0, 1);
        x.store(2, 0, 1);
        x.store(-1, 32, 1);
        x.create(0, 0, 1, 0, -1);
        x.create(0, 4, 1, 64, 32);
        x.give(0, 8, 1);
        x.register(0, 8);
        x.run(0, 3, 1);
        x.destroy(0, 0);
        x.guard(0, 11, 0);
        x.owner(16);
        due.is("denied() behind refusals", x.denied(), 0);
    }

    private static void itIsNeverForgotten() {
        due.sentence("How many loads and stores of the system (load and store) were not allowed.");
        EnclaveGuards x = Scene.ready(2, Words.exit(0));
        x.load(0, 32);
        x.store(0, 32, 1);
        x.run(0, 0, 0);
        x.load(1, 32);
        x.step(0, 1);
        x.destroy(0, 0);
        due.is("denied() behind destroy", x.denied(), 3);
        due.is("load(0, 32)", x.load(0, 32), 0);
        x.create(0, 2, 1, 32, -1);
        x.run(0, 0, 0);
        x.interrupt(0);
        due.is("denied() behind create, run and interrupt", x.denied(), 3);
        for (int k = 0; k < 450; k++) {
            x.load(k % 2, 0);
        }
        due.is("denied() behind 450 more", x.denied(), 453);
    }
}
