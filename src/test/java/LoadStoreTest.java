/** Promises 2, 3 and 4: load, store and denied. */
public final class LoadStoreTest {
    private static final Due due = new Due();

    public static void main(String[] args) {
        everyWordKeepsItsOwn();
        bothProcessorsSeeOneMemory();
        wrongAddresses();
        busyComesFirst();
        enclavesAreClosedToTheSystem();
        deniedCountsTheSystemAlone();
        due.finish();
    }

    private static void everyWordKeepsItsOwn() {
        EnclaveGuards x = new EnclaveGuards(0);
        for (int address = 16; address < 256; address++) {
            due.is("store(0, " + address + ")", x.store(0, address, -address), 0);
        }
        for (int address = 16; address < 256; address++) {
            due.is("load(0, " + address + ")", x.load(0, address), -address);
        }
        due.is("denied()", x.denied(), 0);
    }

    private static void bothProcessorsSeeOneMemory() {
        EnclaveGuards x = new EnclaveGuards(0);
        int[] values = {0, 1, -1, Integer.MIN_VALUE, Integer.MAX_VALUE};
        for (int v : values) {
            due.is("store(1, 77, " + v + ")", x.store(1, 77, v), 0);
            due.is("load(0, 77)", x.load(0, 77), v);
        }
    }

    private static void wrongAddresses() {
        EnclaveGuards x = new EnclaveGuards(0);
        int[] wrong = {-1, -16, 0, 7, 15, 256, 257, 272, 512, 65552, Integer.MIN_VALUE, Integer.MAX_VALUE};
        int denied = 0;
        for (int address : wrong) {
            due.is("load(0, " + address + ")", x.load(0, address), EnclaveGuards.FAULT);
            due.is("store(1, " + address + ", 5)", x.store(1, address, 5), 1);
            denied += 2;
            due.is("denied()", x.denied(), denied);
        }
        due.is("load(0, 16)", x.load(0, 16), 0);
        due.is("load(0, 255)", x.load(0, 255), 0);
        due.is("denied()", x.denied(), denied);
    }

    private static void busyComesFirst() {
        EnclaveGuards x = new EnclaveGuards(0);
        x.create(0, 2, 1, 32, -1);
        x.run(0, 0, 0);
        int[] busy = {0, -1, 2, 3, Integer.MIN_VALUE, Integer.MAX_VALUE};
        for (int p : busy) {
            due.is("load(" + p + ", 100)", x.load(p, 100), EnclaveGuards.NONE);
            due.is("load(" + p + ", 0)", x.load(p, 0), EnclaveGuards.NONE);
            due.is("store(" + p + ", 100, 6)", x.store(p, 100, 6), -1);
            due.is("store(" + p + ", 32, 6)", x.store(p, 32, 6), -1);
            due.is("store(" + p + ", 999, 6)", x.store(p, 999, 6), -1);
        }
        due.is("denied()", x.denied(), 0);
        due.is("load(1, 100)", x.load(1, 100), 0);
    }

    private static void enclavesAreClosedToTheSystem() {
        EnclaveGuards x = new EnclaveGuards(0);
        Words.put(x, 32, Words.load(2, 0, 47), Words.exit(2));
        Words.put(x, 47, 4321);
        x.create(0, 2, 1, 32, -1);
        due.is("load(0, 31)", x.load(0, 31), 0);
        due.is("load(0, 32)", x.load(0, 32), EnclaveGuards.FAULT);
        due.is("load(1, 47)", x.load(1, 47), EnclaveGuards.FAULT);
        due.is("load(1, 48)", x.load(1, 48), 0);
        due.is("store(0, 47, 1)", x.store(0, 47, 1), 1);
        due.is("store(1, 47, 1)", x.store(1, 47, 1), 1);
        due.is("store(1, 48, 1)", x.store(1, 48, 1), 0);
        x.run(0, 0, 0);
        due.is("load(1, 47) while it runs", x.load(1, 47), EnclaveGuards.FAULT);
        due.is("store(1, 47, 1) while it runs", x.store(1, 47, 1), 1);
        x.step(0, 2);
        due.is("released(0)", x.released(0), 4321);
        due.is("load(0, 47) when it has ended", x.load(0, 47), EnclaveGuards.FAULT);
        due.is("denied()", x.denied(), 7);
    }

    private static void deniedCountsTheSystemAlone() {
        EnclaveGuards x = new EnclaveGuards(0);
        Words.put(x, 32, Words.load(2, 0, 0));
        Words.put(x, 48, Words.store(2, 0, 0));
        x.create(0, 2, 1, 32, -1);
        x.create(0, 3, 1, 48, -1);
        for (int e = 0; e < 2; e++) {
            x.run(0, e, 0);
            x.step(0, 5);
            due.is("state(" + e + ")", x.state(e), 5);
        }
        due.is("denied() after faults of enclaves", x.denied(), 0);
        x.create(0, 0, 1, 0, -1);
        x.give(0, 9, 1);
        x.guard(0, 99, 0);
        due.is("denied() after refusals", x.denied(), 0);
    }
}
