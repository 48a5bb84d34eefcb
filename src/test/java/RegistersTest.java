/** Promises 5 and 6: give and register. */
public final class RegistersTest {
    private static final Due due = new Due();

    public static void main(String[] args) {
        everyRegisterKeepsItsOwn();
        wrongRegistersAndProcessors();
        keptWhileAnEnclaveRuns();
        due.finish();
    }

    private static void everyRegisterKeepsItsOwn() {
        EnclaveGuards x = new EnclaveGuards(0);
        for (int p = 0; p < 2; p++) {
            for (int k = 0; k < 8; k++) {
                due.is("give(" + p + ", " + k + ")", x.give(p, k, 100 * p - k), true);
            }
        }
        for (int p = 0; p < 2; p++) {
            for (int k = 0; k < 8; k++) {
                due.is("register(" + p + ", " + k + ")", x.register(p, k), 100 * p - k);
            }
        }
        x.give(1, 7, Integer.MIN_VALUE);
        due.is("register(1, 7)", x.register(1, 7), Integer.MIN_VALUE);
    }

    private static void wrongRegistersAndProcessors() {
        EnclaveGuards x = new EnclaveGuards(0);
        int[] wrongRegisters = {-1, 8, 9, Integer.MIN_VALUE, Integer.MAX_VALUE};
        for (int k : wrongRegisters) {
            due.is("give(0, " + k + ", 1)", x.give(0, k, 1), false);
            due.is("register(0, " + k + ")", x.register(0, k), EnclaveGuards.NONE);
        }
        int[] wrongProcessors = {-1, 2, Integer.MIN_VALUE, Integer.MAX_VALUE};
        for (int p : wrongProcessors) {
            due.is("give(" + p + ", 0, 1)", x.give(p, 0, 1), false);
            due.is("register(" + p + ", 0)", x.register(p, 0), EnclaveGuards.NONE);
        }
        for (int k = 0; k < 8; k++) {
            due.is("register(0, " + k + ")", x.register(0, k), 0);
            due.is("register(1, " + k + ")", x.register(1, k), 0);
        }
    }

    private static void keptWhileAnEnclaveRuns() {
        EnclaveGuards x = new EnclaveGuards(0);
        Words.put(x, 32, Words.set(0, 0, 900), Words.set(3, 0, 901), Words.yield(), Words.exit(3));
        x.create(0, 2, 1, 32, -1);
        for (int k = 0; k < 8; k++) {
            x.give(0, k, 50 + k);
            x.give(1, k, 70 + k);
        }
        x.run(0, 0, 5);
        due.is("give(0, 3, 1) while it runs", x.give(0, 3, 1), false);
        due.is("register(0, 3) while it runs", x.register(0, 3), EnclaveGuards.NONE);
        due.is("give(1, 3, 8)", x.give(1, 3, 8), true);
        x.step(0, 3);
        for (int k = 0; k < 8; k++) {
            due.is("register(0, " + k + ") after it", x.register(0, k), 50 + k);
            due.is("register(1, " + k + ") beside it", x.register(1, k), k == 3 ? 8 : 70 + k);
        }
        x.run(1, 0, 5);
        x.give(0, 3, 66);
        x.step(1, 3);
        due.is("released(0): the enclave's r3, not the system's", x.released(0), 900 + 901);
        due.is("register(1, 3)", x.register(1, 3), 8);
    }
}
