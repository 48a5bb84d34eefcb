import java.util.function.Consumer;

/**
 * Terms: a call that answers a refusal changes nothing. Each way in which a call can be refused is tried on one of two
 * machines that are alike, and the two must stay alike.
 */
public final class RefusalTest {
    private static final int[] NO_PROCESSOR = {-1, 2, Integer.MIN_VALUE, Integer.MAX_VALUE};
    private static final int[] NO_ENCLAVE = {-1, 4, Integer.MIN_VALUE, Integer.MAX_VALUE};
    /** In fourEnclaves processor 1 runs an enclave, too. */
    private static final int[] BUSY = {-1, 1, 2, Integer.MIN_VALUE, Integer.MAX_VALUE};

    private static final Due due = new Due();
    private static final Twins fresh = new Twins(due, x -> { });
    private static final Twins four = twins(Scene::fourEnclaves);
    private static final Twins three = twins(Scene::threeEnclaves);
    private static final Twins both = twins(Scene::bothBusy);
    private static final Twins none = twins(Scene::noneRuns);

    public static void main(String[] args) {
        due.sentence("A call that answers a refusal (less than 0, false, NONE) changes nothing.");
        loads();
        stores();
        gives();
        registers();
        createsWhenBusy();
        createsOutOfBounds();
        createsOfOthersPages();
        createsBeyondFour();
        runs();
        steps();
        interrupts();
        destroys();
        looks();
        due.finish();
    }

    private static Twins twins(Consumer<EnclaveGuards> past) {
        return new Twins(due, past);
    }

    private static void loads() {
        for (int p : BUSY) {
            four.refuse("load(" + p + ", 200)", EnclaveGuards.NONE, x -> x.load(p, 200));
            four.refuse("load(" + p + ", 0)", EnclaveGuards.NONE, x -> x.load(p, 0));
        }
        both.refuse("load(0, 200)", EnclaveGuards.NONE, x -> x.load(0, 200));
        both.refuse("load(0, 256)", EnclaveGuards.NONE, x -> x.load(0, 256));
    }

    private static void stores() {
        for (int p : BUSY) {
            four.refuse("store(" + p + ", 160, 4)", -1, x -> x.store(p, 160, 4));
            four.refuse("store(" + p + ", 200, 4)", -1, x -> x.store(p, 200, 4));
            four.refuse("store(" + p + ", 32, 15)", -1, x -> x.store(p, 32, 15));
            four.refuse("store(" + p + ", 96, 15)", -1, x -> x.store(p, 96, 15));
        }
        both.refuse("store(0, 160, 4)", -1, x -> x.store(0, 160, 4));
        both.refuse("store(0, 72, 15), a word of the one that runs", -1, x -> x.store(0, 72, 15));
        both.refuse("store(1, 22, 15), a word of the one that runs", -1, x -> x.store(1, 22, 15));
    }

    private static void gives() {
        for (int p : BUSY) {
            for (int k = 0; k < 8; k++) {
                int register = k;
                four.refuse("give(" + p + ", " + k + ", 4)", false, x -> x.give(p, register, 4) ? 1 : 0);
            }
        }
        int[] wrong = {-1, 8, Integer.MIN_VALUE, Integer.MAX_VALUE};
        for (int k : wrong) {
            none.refuse("give(0, " + k + ", 4)", false, x -> x.give(0, k, 4) ? 1 : 0);
            none.refuse("give(1, " + k + ", 4)", false, x -> x.give(1, k, 4) ? 1 : 0);
        }
    }

    private static void registers() {
        for (int p : BUSY) {
            four.refuse("register(" + p + ", 0)", EnclaveGuards.NONE, x -> x.register(p, 0));
        }
        none.refuse("register(0, -1)", EnclaveGuards.NONE, x -> x.register(0, -1));
        none.refuse("register(1, 8)", EnclaveGuards.NONE, x -> x.register(1, 8));
    }

    private static void createsWhenBusy() {
        for (int p : BUSY) {
            three.refuse("create(" + p + ", 10, 1, 160, -1)", -1, x -> x.create(p, 10, 1, 160, -1));
            three.refuse("create(" + p + ", 10, 3, 160, 208)", -1, x -> x.create(p, 10, 3, 160, 208));
        }
        for (int p : NO_PROCESSOR) {
            fresh.refuse("create(" + p + ", 1, 1, 16, -1)", -1, x -> x.create(p, 1, 1, 16, -1));
        }
    }

    private static void createsOutOfBounds() {
        int[] sizes = {-1, 0, 9, Integer.MIN_VALUE, Integer.MAX_VALUE};
        for (int pages : sizes) {
            fresh.refuse("create(0, 1, " + pages + ", 16, -1)", -2, x -> x.create(0, 1, pages, 16, -1));
        }
        int[] firsts = {-1, 16, Integer.MIN_VALUE, Integer.MAX_VALUE};
        for (int first : firsts) {
            three.refuse("create(0, " + first + ", 2, 0, -1)", -2, x -> x.create(0, first, 2, 0, -1));
        }
        three.refuse("create(0, 15, 2, 240, -1)", -2, x -> x.create(0, 15, 2, 240, -1));
        three.refuse("create(0, 9, 8, 160, -1)", -2, x -> x.create(0, 9, 8, 160, -1));
        int[] entries = {159, 176, Integer.MIN_VALUE, Integer.MAX_VALUE};
        for (int entry : entries) {
            three.refuse("create(0, 10, 1, " + entry + ", -1)", -2, x -> x.create(0, 10, 1, entry, -1));
        }
        int[] shares = {-2, 272, Integer.MIN_VALUE, Integer.MAX_VALUE};
        for (int shared : shares) {
            three.refuse("create(0, 10, 1, 160, " + shared + ")", -2, x -> x.create(0, 10, 1, 160, shared));
        }
    }

    private static void createsOfOthersPages() {
        three.refuse("create(0, 0, 1, 0, -1)", -3, x -> x.create(0, 0, 1, 0, -1));
        three.refuse("create(0, 6, 4, 96, -1), the first is another's", -3, x -> x.create(0, 6, 4, 96, -1));
        none.refuse("create(1, 8, 3, 128, -1), the first is another's", -3, x -> x.create(1, 8, 3, 128, -1));
        int[] shares = {0, 15, 16, 96, 111, 160, 175, 256, 256 + 1, 256 + 6, 256 + 10};
        for (int shared : shares) {
            three.refuse("create(0, 10, 1, 160, " + shared + ")", -4, x -> x.create(0, 10, 1, 160, shared));
        }
        // The page before the taken one is free here, so that the refusal comes in the midst of the pages.
        Twins gap = twins(x -> {
            x.create(0, 3, 1, 48, -1);
            x.store(0, 32, 7);
        });
        gap.refuse("create(0, 1, 3, 16, -1), the last is another's", -3, x -> x.create(0, 1, 3, 16, -1));
        gap.refuse("create(0, 2, 3, 32, -1), the middle is another's", -3, x -> x.create(0, 2, 3, 32, -1));
    }

    private static void createsBeyondFour() {
        four.refuse("create(0, 10, 1, 160, -1)", -5, x -> x.create(0, 10, 1, 160, -1));
        four.refuse("create(0, 10, 3, 160, 208)", -5, x -> x.create(0, 10, 3, 160, 208));
        none.refuse("create(1, 10, 1, 160, 256 + 11)", -5, x -> x.create(1, 10, 1, 160, 267));
    }

    private static void runs() {
        for (int p : BUSY) {
            for (int e = -1; e <= 4; e++) {
                int number = e;
                four.refuse("run(" + p + ", " + e + ", 4)", -1, x -> x.run(p, number, 4));
            }
        }
        both.refuse("run(0, 2, 4)", -1, x -> x.run(0, 2, 4));
        for (int e : NO_ENCLAVE) {
            four.refuse("run(0, " + e + ", 4)", -2, x -> x.run(0, e, 4));
            fresh.refuse("run(0, " + e + ", 4)", -2, x -> x.run(0, e, 4));
        }
        for (int e = 0; e < 4; e++) {
            int number = e;
            fresh.refuse("run(1, " + e + ", 4)", -2, x -> x.run(1, number, 4));
        }
        four.refuse("run(0, 0, 4) of a RUNNING one", -2, x -> x.run(0, 0, 4));
        four.refuse("run(0, 3, 4) of an EXITED one", -2, x -> x.run(0, 3, 4));
        none.refuse("run(0, 2, 4) of a FAULTED one", -2, x -> x.run(0, 2, 4));
        three.refuse("run(0, 3, 4) of one that is gone", -2, x -> x.run(0, 3, 4));
    }

    private static void steps() {
        int[] wrong = {-1, 0, 101, Integer.MIN_VALUE, Integer.MAX_VALUE};
        for (int n : wrong) {
            both.refuse("step(0, " + n + ")", -1, x -> x.step(0, n));
            both.refuse("step(1, " + n + ")", -1, x -> x.step(1, n));
            none.refuse("step(0, " + n + ")", -1, x -> x.step(0, n));
        }
        for (int p : NO_PROCESSOR) {
            both.refuse("step(" + p + ", 1)", -1, x -> x.step(p, 1));
        }
        four.refuse("step(0, 1) of the system", -1, x -> x.step(0, 1));
        none.refuse("step(1, 100) of the system", -1, x -> x.step(1, 100));
        fresh.refuse("step(0, 1) of the system", -1, x -> x.step(0, 1));
    }

    private static void interrupts() {
        for (int p : NO_PROCESSOR) {
            both.refuse("interrupt(" + p + ")", -1, x -> x.interrupt(p));
        }
        four.refuse("interrupt(0) of the system", -1, x -> x.interrupt(0));
        none.refuse("interrupt(1) of the system", -1, x -> x.interrupt(1));
        fresh.refuse("interrupt(0) of the system", -1, x -> x.interrupt(0));
    }

    private static void destroys() {
        for (int p : BUSY) {
            for (int e = -1; e <= 4; e++) {
                int number = e;
                four.refuse("destroy(" + p + ", " + e + ")", -1, x -> x.destroy(p, number));
            }
        }
        both.refuse("destroy(0, 2)", -1, x -> x.destroy(0, 2));
        for (int e : NO_ENCLAVE) {
            four.refuse("destroy(0, " + e + ")", -2, x -> x.destroy(0, e));
        }
        three.refuse("destroy(0, 3), gone", -2, x -> x.destroy(0, 3));
        fresh.refuse("destroy(0, 0), not made yet", -2, x -> x.destroy(0, 0));
        four.refuse("destroy(0, 0) of a RUNNING one", -3, x -> x.destroy(0, 0));
    }

    /** The calls that only look. */
    private static void looks() {
        for (int e : NO_ENCLAVE) {
            four.refuse("state(" + e + ")", -1, x -> x.state(e));
            four.refuse("released(" + e + ")", EnclaveGuards.NONE, x -> x.released(e));
            four.refuse("measurement(" + e + ")", EnclaveGuards.NONE, x -> x.measurement(e));
        }
        for (int e = 0; e < 3; e++) {
            int number = e;
            four.refuse("released(" + e + ")", EnclaveGuards.NONE, x -> x.released(number));
        }
        three.refuse("measurement(3), gone", EnclaveGuards.NONE, x -> x.measurement(3));
        four.refuse("verify(1, 2, 3)", false, x -> x.verify(1, 2, 3) ? 1 : 0);
        for (int p : NO_PROCESSOR) {
            four.refuse("running(" + p + ")", -2, x -> x.running(p));
            four.refuse("guard(" + p + ", 0, 0)", -1, x -> x.guard(p, 0, 0));
        }
        four.refuse("running(0), it runs the system", -1, x -> x.running(0));
        four.refuse("owner(-1)", -1, x -> x.owner(-1));
        four.refuse("owner(16)", -1, x -> x.owner(16));
        four.refuse("guard(0, -1, 0)", -1, x -> x.guard(0, -1, 0));
        four.refuse("guard(0, 11, 0)", -1, x -> x.guard(0, 11, 0));
        four.refuse("guard(0, 10, -1)", -1, x -> x.guard(0, 10, -1));
        four.refuse("guard(0, 10, 3)", -1, x -> x.guard(0, 10, 3));
    }
}
