/** Promise 1: a new object. */
public final class NewObjectTest {
    private static final Due due = new Due();

    public static void main(String[] args) {
        memoryIsZeroAndTheSystems();
        nothingRunsAndNothingIsThere();
        guardsAtFirst();
        keyIsTheOneGiven();
        objectsAreApart();
        due.finish();
    }

    private static void memoryIsZeroAndTheSystems() {
        EnclaveGuards x = new EnclaveGuards(5);
        for (int address = 0; address < 256; address++) {
            due.is("load(0, " + address + ")", x.load(0, address), address < 16 ? EnclaveGuards.FAULT : 0);
        }
        due.is("owner(0)", x.owner(0), 0);
        for (int page = 1; page < 16; page++) {
            due.is("owner(" + page + ")", x.owner(page), 1);
        }
    }

    private static void nothingRunsAndNothingIsThere() {
        EnclaveGuards x = new EnclaveGuards(5);
        due.is("denied()", x.denied(), 0);
        for (int p = 0; p < 2; p++) {
            due.is("running(" + p + ")", x.running(p), -1);
            for (int k = 0; k < 8; k++) {
                due.is("register(" + p + ", " + k + ")", x.register(p, k), 0);
            }
        }
        for (int e = 0; e < 4; e++) {
            due.is("state(" + e + ")", x.state(e), 0);
            due.is("measurement(" + e + ")", x.measurement(e), EnclaveGuards.NONE);
            due.is("released(" + e + ")", x.released(e), EnclaveGuards.NONE);
            due.is("run(0, " + e + ", 0)", x.run(0, e, 0), -2);
            due.is("destroy(1, " + e + ")", x.destroy(1, e), -2);
        }
    }

    private static void guardsAtFirst() {
        EnclaveGuards x = new EnclaveGuards(5);
        for (int p = 0; p < 2; p++) {
            for (int k = 0; k < 11; k++) {
                String name = "guard(" + p + ", " + k + ", ";
                boolean ends = k == 0 || k == 10;
                due.is(name + "0)", x.guard(p, k, 0), ends ? 3 : 0);
                due.is(name + "1)", x.guard(p, k, 1), k == 10 ? 7 : 0);
                due.is(name + "2)", x.guard(p, k, 2), k == 0 ? 7 : k == 10 ? 127 : 0);
            }
        }
    }

    private static void keyIsTheOneGiven() {
        int[] keys = {0, 1, -1, 12345, Integer.MIN_VALUE, Integer.MAX_VALUE};
        for (int key : keys) {
            EnclaveGuards x = new EnclaveGuards(key);
            for (int other : keys) {
                boolean want = Words.proofOf(key, 8, 9) == Words.proofOf(other, 8, 9);
                due.is("verify by key " + key + " of " + other, x.verify(8, 9, Words.proofOf(other, 8, 9)), want);
            }
        }
    }

    private static void objectsAreApart() {
        EnclaveGuards x = new EnclaveGuards(5);
        EnclaveGuards y = new EnclaveGuards(5);
        x.store(0, 40, 3);
        x.give(0, 1, 3);
        x.create(0, 2, 1, 32, -1);
        x.run(0, 0, 0);
        due.is("y.load(0, 40)", y.load(0, 40), 0);
        due.is("y.register(0, 1)", y.register(0, 1), 0);
        due.is("y.state(0)", y.state(0), 0);
        due.is("y.running(0)", y.running(0), -1);
        due.is("y.owner(2)", y.owner(2), 1);
    }
}
