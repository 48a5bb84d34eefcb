/** Promise 3: store. */
public final class StoreTest {
    private static final Due due = new Due();

    public static void main(String[] args) {
        stores();
        refusedIfBusy();
        notAllowed();
        busyComesFirst();
        due.finish();
    }

    private static void stores() {
        due.sentence("The system stores v at the address: 0");
        int[] values = {Integer.MIN_VALUE, -1, 0, 1, Integer.MAX_VALUE};
        int[] addresses = {16, 17, 31, 32, 127, 128, 254, 255};
        EnclaveGuards x = new EnclaveGuards(0);
        for (int v : values) {
            for (int address : addresses) {
                int p = address % 2;
                due.is("store(" + p + ", " + address + ", " + v + ")", x.store(p, address, v), 0);
                due.is("load(0, " + address + ")", x.load(0, address), v);
                due.is("load(1, " + address + ")", x.load(1, address), v);
            }
        }
        EnclaveGuards y = new EnclaveGuards(0);
        y.store(0, 100, 5);
        due.is("load(0, 99), a word beside", y.load(0, 99), 0);
        due.is("load(0, 101), a word beside", y.load(0, 101), 0);
    }

    private static void refusedIfBusy() {
        due.sentence("-1 if the processor is BUSY");
        EnclaveGuards x = Scene.inState(Scene.RUNNING, 1);
        due.is("store(-1, 200, 4)", x.store(-1, 200, 4), -1);
        due.is("store(1, 200, 4)", x.store(1, 200, 4), -1);
        due.is("store(2, 200, 4)", x.store(2, 200, 4), -1);
        for (int p : Scene.FAR_OFF) {
            due.is("store(" + p + ", 200, 4)", x.store(p, 200, 4), -1);
        }
        due.is("load(0, 200)", x.load(0, 200), 0);
        due.is("store(0, 200, 4)", x.store(0, 200, 4), 0);
        x.interrupt(1);
        due.is("store(1, 200, 5), busy no more", x.store(1, 200, 5), 0);
    }

    private static void notAllowed() {
        due.sentence("else 1, storing nothing, if that is not allowed");
        for (int state = Scene.READY; state <= Scene.FAULTED; state++) {
            EnclaveGuards x = Scene.inState(state, 1);
            for (int address = -1; address <= 256; address++) {
                boolean closed = address < 16 || address / 16 == 2 || address > 255;
                due.is("store(0, " + address + ")", x.store(0, address, 3), closed ? 1 : 0);
            }
        }
        EnclaveGuards x = Scene.ready(2, Words.load(2, 0, 34), Words.exit(2), 21);
        due.is("store(0, 34, 9)", x.store(0, 34, 9), 1);
        due.is("store(0, 32, 15)", x.store(0, 32, 15), 1);
        for (int address : Scene.FAR_OFF) {
            due.is("store(0, " + address + ", 9)", x.store(0, address, 9), 1);
        }
        x.run(0, 0, 0);
        due.is("store(1, 33, 15) while it runs", x.store(1, 33, 15), 1);
        x.step(0, 100);
        due.is("released(0): its words are as they were", x.released(0), 21);
        for (int address = 16; address < 256; address++) {
            boolean its = address / 16 == 2;
            due.is("load(0, " + address + ")", x.load(0, address), its ? EnclaveGuards.FAULT : 0);
        }
    }

    private static void busyComesFirst() {
        due.sentence("-1 if the processor is BUSY; else 1");
        EnclaveGuards x = Scene.inState(Scene.RUNNING, 1);
        int[] closed = {-1, 0, 15, 32, 47, 256};
        int[] busy = {-1, 1, 2};
        for (int p : busy) {
            for (int address : closed) {
                due.is("store(" + p + ", " + address + ", 4)", x.store(p, address, 4), -1);
            }
        }
        due.is("denied()", x.denied(), 0);
    }
}
