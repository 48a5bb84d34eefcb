/** Promise 1: a new object. */
public final class NewObjectTest {
    private static final Due due = new Due();

    public static void main(String[] args) {
        theKey();
        pages();
        noEnclaves();
        atFirst();
        objectsAreApart();
        due.finish();
    }

    private static void theKey() {
        due.sentence("The machine with its KEY");
        int[] keys = {Integer.MIN_VALUE, -1, 0, 1, 12345, Integer.MAX_VALUE};
        for (int key : keys) {
            EnclaveGuards x = new EnclaveGuards(key);
            for (int other : keys) {
                int proof = Words.proofOf(other, 8, 9);
                due.is("key " + key + ", verify of a proof by " + other, x.verify(8, 9, proof), key == other);
            }
            Words.put(x, 32, Words.secret(2), Words.exit(2));
            x.create(0, 2, 1, 32, -1);
            x.run(0, 0, 0);
            x.step(0, 2);
            due.is("key " + key + ", a secret", x.released(0), Words.secretOf(key, (int) x.measurement(0)));
        }
    }

    private static void pages() {
        due.sentence("all pages but page 0 the system's");
        EnclaveGuards x = new EnclaveGuards(5);
        due.is("owner(0)", x.owner(0), 0);
        due.is("load(0, 15)", x.load(0, 15), EnclaveGuards.FAULT);
        for (int page = 1; page < 16; page++) {
            due.is("owner(" + page + ")", x.owner(page), 1);
            due.is("load of its first word", x.load(0, page * 16), 0);
            due.is("load of its last word", x.load(1, page * 16 + 15), 0);
        }
    }

    private static void noEnclaves() {
        due.sentence("no enclaves");
        EnclaveGuards x = new EnclaveGuards(5);
        for (int e = 0; e < 4; e++) {
            due.is("state(" + e + ")", x.state(e), 0);
            due.is("measurement(" + e + ")", x.measurement(e), EnclaveGuards.NONE);
            due.is("released(" + e + ")", x.released(e), EnclaveGuards.NONE);
            due.is("run(0, " + e + ", 0)", x.run(0, e, 0), -2);
            due.is("destroy(1, " + e + ")", x.destroy(1, e), -2);
            due.is("guard(0, " + (2 + 2 * e) + ", 0)", x.guard(0, 2 + 2 * e, 0), 0);
        }
        for (int e = 0; e < 4; e++) {
            due.is("create, all four numbers are free", x.create(0, 1 + e, 1, 16 + 16 * e, -1), e);
        }
    }

    private static void atFirst() {
        due.sentence("at first");
        EnclaveGuards x = new EnclaveGuards(5);
        due.is("denied()", x.denied(), 0);
        for (int p = 0; p < 2; p++) {
            due.is("running(" + p + ")", x.running(p), -1);
            due.is("interrupt(" + p + ")", x.interrupt(p), -1);
            due.is("step(" + p + ", 1)", x.step(p, 1), -1);
            for (int k = 0; k < 8; k++) {
                due.is("register(" + p + ", " + k + ")", x.register(p, k), 0);
            }
        }
    }

    private static void objectsAreApart() {
        due.sentence("The machine with its KEY");
        EnclaveGuards x = new EnclaveGuards(5);
        EnclaveGuards y = new EnclaveGuards(5);
        x.store(0, 40, 3);
        x.give(0, 1, 3);
        x.load(0, 0);
        x.create(0, 2, 1, 32, -1);
        x.run(0, 0, 0);
        due.is("y.load(0, 40)", y.load(0, 40), 0);
        due.is("y.register(0, 1)", y.register(0, 1), 0);
        due.is("y.denied()", y.denied(), 0);
        due.is("y.state(0)", y.state(0), 0);
        due.is("y.running(0)", y.running(0), -1);
        due.is("y.owner(2)", y.owner(2), 1);
        due.is("y.guard(0, 2, 0)", y.guard(0, 2, 0), 0);
    }
}
