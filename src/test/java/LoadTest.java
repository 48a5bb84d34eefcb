/** Promise 2: load. */
public final class LoadTest {
    private static final Due due = new Due();

    public static void main(String[] args) {
        theWord();
        noneIfBusy();
        elseFault();
        busyComesFirst();
        due.finish();
    }

    private static void theWord() {
        due.sentence("The system loads on a processor: the word at the address");
        int[] values = {Integer.MIN_VALUE, -1, 0, 1, Integer.MAX_VALUE};
        int[] addresses = {16, 17, 31, 32, 127, 128, 254, 255};
        for (int v : values) {
            EnclaveGuards x = new EnclaveGuards(0);
            for (int address : addresses) {
                x.store(0, address, v);
                due.is("load(0, " + address + ")", x.load(0, address), v);
                due.is("load(1, " + address + ")", x.load(1, address), v);
            }
        }
    }

    private static void noneIfBusy() {
        due.sentence("NONE if it is BUSY");
        EnclaveGuards x = Scene.inState(Scene.RUNNING, 1);
        due.is("load(-1, 200)", x.load(-1, 200), EnclaveGuards.NONE);
        due.is("load(0, 200)", x.load(0, 200), 0);
        due.is("load(1, 200)", x.load(1, 200), EnclaveGuards.NONE);
        due.is("load(2, 200)", x.load(2, 200), EnclaveGuards.NONE);
        for (int p : Scene.FAR_OFF) {
            due.is("load(" + p + ", 200)", x.load(p, 200), EnclaveGuards.NONE);
        }
        x.interrupt(1);
        due.is("load(1, 200), busy no more", x.load(1, 200), 0);
    }

    private static void elseFault() {
        due.sentence("else FAULT if that is not allowed");
        for (int state = Scene.READY; state <= Scene.FAULTED; state++) {
            EnclaveGuards x = Scene.inState(state, 1);
            for (int address = -1; address <= 256; address++) {
                boolean closed = address < 16 || address / 16 == 2 || address > 255;
                due.is("load(0, " + address + ")", x.load(0, address), closed ? EnclaveGuards.FAULT : 0);
            }
        }
        EnclaveGuards x = new EnclaveGuards(0);
        for (int address : Scene.FAR_OFF) {
            due.is("load(0, " + address + ")", x.load(0, address), EnclaveGuards.FAULT);
        }
        x.create(0, 5, 1, 80, 200);
        x.run(1, 0, 0);
        due.is("load(0, 200), what an enclave shares", x.load(0, 200), 0);
    }

    private static void busyComesFirst() {
        due.sentence("NONE if it is BUSY; else FAULT if that is not allowed");
        EnclaveGuards x = Scene.inState(Scene.RUNNING, 1);
        int[] closed = {-1, 0, 15, 32, 47, 256};
        int[] busy = {-1, 1, 2};
        for (int p : busy) {
            for (int address : closed) {
                due.is("load(" + p + ", " + address + ")", x.load(p, address), EnclaveGuards.NONE);
            }
        }
        due.is("denied()", x.denied(), 0);
    }
}
