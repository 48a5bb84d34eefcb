/** Promise 11: destroy. */
public final class DestroyTest {
    private static final Due due = new Due();

    public static void main(String[] args) {
        wordsAndPagesAreGivenBack();
        inEveryStateButRunning();
        refusals();
        othersStay();
        itIsThereNoMore();
        due.finish();
    }

    private static void wordsAndPagesAreGivenBack() {
        for (int pages = 1; pages <= 8; pages++) {
            EnclaveGuards x = new EnclaveGuards(0);
            for (int address = 16; address < 208; address++) {
                x.store(0, address, 3);
            }
            x.create(0, 3, pages, 48, -1);
            due.is("destroy(1, 0) of " + pages, x.destroy(1, 0), 0);
            int end = 48 + 16 * pages;
            for (int address = 16; address < 208; address++) {
                boolean its = address >= 48 && address < end;
                due.is("load(0, " + address + ") after " + pages, x.load(0, address), its ? 0 : 3);
            }
            for (int page = 1; page < 16; page++) {
                due.is("owner(" + page + ")", x.owner(page), 1);
            }
        }
    }

    private static void inEveryStateButRunning() {
        int[] programs = {Words.yield(), Words.exit(0), 15};
        int[] states = {3, 4, 5};
        for (int k = 0; k < 3; k++) {
            EnclaveGuards x = new EnclaveGuards(0);
            Words.put(x, 32, programs[k]);
            x.create(0, 2, 1, 32, -1);
            x.run(0, 0, 0);
            due.is("destroy(1, 0) of a RUNNING one", x.destroy(1, 0), -3);
            due.is("destroy(0, 0) on the busy one", x.destroy(0, 0), -1);
            due.is("state(0)", x.state(0), 2);
            x.step(0, 1);
            due.is("state(0)", x.state(0), states[k]);
            due.is("destroy(0, 0)", x.destroy(0, 0), 0);
            due.is("state(0)", x.state(0), 0);
            due.is("load(0, 32)", x.load(0, 32), 0);
        }
    }

    private static void refusals() {
        EnclaveGuards x = new EnclaveGuards(0);
        Words.put(x, 32, Words.exit(0), 99);
        x.create(0, 2, 1, 32, -1);
        x.create(0, 3, 1, 48, -1);
        int[] wrong = {-1, 2, 3, 4, Integer.MIN_VALUE, Integer.MAX_VALUE};
        for (int e : wrong) {
            due.is("destroy(0, " + e + ")", x.destroy(0, e), -2);
        }
        for (int p : Words.WRONG_NUMBERS) {
            due.is("destroy(" + p + ", 0)", x.destroy(p, 0), -1);
            due.is("destroy(" + p + ", 9)", x.destroy(p, 9), -1);
        }
        due.is("destroy(2, 0)", x.destroy(2, 0), -1);
        x.run(1, 1, 0);
        due.is("destroy(1, 0) on a busy one", x.destroy(1, 0), -1);
        due.is("destroy(1, 9) on a busy one", x.destroy(1, 9), -1);
        due.is("destroy(0, 1) of a RUNNING one", x.destroy(0, 1), -3);
        due.is("running(1)", x.running(1), 1);
        due.is("state(0)", x.state(0), 1);
        due.is("owner(2)", x.owner(2), 2);
        due.is("owner(3)", x.owner(3), 3);
        due.is("destroy(0, 0)", x.destroy(0, 0), 0);
        due.is("destroy(0, 0) again", x.destroy(0, 0), -2);
    }

    private static void othersStay() {
        EnclaveGuards x = new EnclaveGuards(0);
        Words.put(x, 47, 5);
        Words.put(x, 48, Words.load(2, 0, 49), 6);
        Words.put(x, 64, 7);
        x.create(0, 2, 1, 32, -1);
        x.create(0, 3, 1, 48, -1);
        long measured = x.measurement(1);
        x.run(1, 1, 0);
        due.is("destroy(0, 0) beside a running one", x.destroy(0, 0), 0);
        due.is("state(1)", x.state(1), 2);
        due.is("running(1)", x.running(1), 1);
        due.is("measurement(1)", x.measurement(1), measured);
        due.is("owner(3)", x.owner(3), 3);
        due.is("load(0, 47)", x.load(0, 47), 0);
        due.is("load(0, 48)", x.load(0, 48), EnclaveGuards.FAULT);
        due.is("load(0, 64)", x.load(0, 64), 7);
        due.is("guard(1, 4, 1)", x.guard(1, 4, 1), 7);
        due.is("step(1, 1)", x.step(1, 1), 1);
        due.is("state(1)", x.state(1), 2);
    }

    private static void itIsThereNoMore() {
        EnclaveGuards x = new EnclaveGuards(0);
        x.create(0, 3, 3, 48, 200);
        x.run(0, 0, 0);
        x.step(0, 1);
        x.destroy(0, 0);
        due.is("released(0)", x.released(0), EnclaveGuards.NONE);
        due.is("measurement(0)", x.measurement(0), EnclaveGuards.NONE);
        for (int p = 0; p < 2; p++) {
            for (int k = 1; k <= 2; k++) {
                for (int which = 0; which < 3; which++) {
                    due.is("guard(" + p + ", " + k + ", " + which + ")", x.guard(p, k, which), 0);
                }
            }
        }
        due.is("its number is free", x.create(0, 4, 1, 64, -1), 0);
        due.is("state(0)", x.state(0), 1);
        due.is("released(0) of the new one", x.released(0), EnclaveGuards.NONE);
    }
}
