/** The document's first line: in machines of four enclaves, who is kept from what. */
public final class ApartTest {
    /** The first page and the number of pages: two blocks and two ranges. Page 10 is the system's. */
    private static final int[][] PLACES = {{1, 3}, {4, 4}, {8, 2}, {11, 5}};
    /** The number that the enclave at each place gets: each guard comes before and behind each other. */
    private static final int[][] ORDERS = {{0, 1, 2, 3}, {1, 2, 3, 0}, {2, 3, 0, 1}, {3, 2, 1, 0}, {1, 0, 3, 2}};
    private static final int LOADING = 1;
    private static final int STORING = 2;
    private static final int FETCHING = 4;
    private static final int[] FAULTS = {0, 2, 3, 0, 1};
    private static final Due due = new Due();

    public static void main(String[] args) {
        atMostFour();
        fromOneAnother();
        fromTheSystem();
        fromOnesThatRunBeside();
        sharedByTwo();
        due.finish();
    }

    private static int wordFor(int right) {
        return right == LOADING ? Words.load(2, 1, 0) : right == STORING ? Words.store(1, 1, 0) : Words.jump(2, 1, 0);
    }

    /** What stands at an address: a word that does no harm when it is fetched. */
    private static int mark(int address) {
        return Words.set(3, 3, address);
    }

    private static int placeOf(int[] order, int e) {
        for (int place = 0; place < 4; place++) {
            if (order[place] == e) {
                return place;
            }
        }
        throw new IllegalStateException("no place for " + e);
    }

    /** Whose the address is: an enclave's number, or -1. */
    private static int enclaveAt(int[] order, int address) {
        for (int place = 0; place < 4; place++) {
            int page = address / 16;
            if (page >= PLACES[place][0] && page < PLACES[place][0] + PLACES[place][1]) {
                return order[place];
            }
        }
        return -1;
    }

    private static int firstWord(int[] order, int e) {
        return PLACES[placeOf(order, e)][0] * 16;
    }

    /**
     * Four enclaves, each READY to do one access to the address that it is run with: this one of the right, the others
     * loading and then releasing what they loaded. The word at the address is a mark, if no program is there.
     */
    private static EnclaveGuards machine(int[] order, int e, int right, int address) {
        EnclaveGuards x = new EnclaveGuards(0);
        x.store(0, address, mark(address));
        for (int other = 0; other < 4; other++) {
            int place = placeOf(order, other);
            int first = firstWord(order, other);
            Words.put(x, first, wordFor(other == e ? right : LOADING), Words.exit(2));
            x.create(0, PLACES[place][0], PLACES[place][1], first, -1);
        }
        return x;
    }

    private static boolean isProgram(int[] order, int address) {
        int e = enclaveAt(order, address);
        return e >= 0 && address < firstWord(order, e) + 2;
    }

    private static void atMostFour() {
        due.sentence("A monitor that keeps at most four closed programs (enclaves)");
        EnclaveGuards x = machine(ORDERS[0], 0, LOADING, 160);
        for (int e = 0; e < 4; e++) {
            due.is("state(" + e + ")", x.state(e), Scene.READY);
        }
        due.is("create of a fifth", x.create(0, 10, 1, 160, -1), -5);
    }

    private static void fromOneAnother() {
        due.sentence("apart from an untrusted system and from one another");
        for (int[] order : ORDERS) {
            for (int e = 0; e < 4; e++) {
                for (int address = 0; address < 256; address++) {
                    oneAccess(order, e, LOADING, address);
                    oneAccess(order, e, STORING, address);
                    oneAccess(order, e, FETCHING, address);
                }
            }
        }
    }

    private static void oneAccess(int[] order, int e, int right, int address) {
        EnclaveGuards x = machine(order, e, right, address);
        boolean its = enclaveAt(order, address) == e;
        String name = "enclave " + e + ", right " + right + ", at " + address;
        x.run(1, e, address);
        // The second step of a jump is the fetch.
        x.step(1, 2);
        if (its) {
            due.holds("allowed: " + name, x.state(e) != Scene.FAULTED);
        } else {
            due.is("the state behind " + name, x.state(e), Scene.FAULTED);
            due.is("the fault of " + name, x.released(e), FAULTS[right]);
            wordIsAsItWas(x, order, address, name);
        }
    }

    /** Looks at the word as the one does whose it is; nobody can look at the monitor's. */
    private static void wordIsAsItWas(EnclaveGuards x, int[] order, int address, String name) {
        int whose = enclaveAt(order, address);
        if (whose >= 0 && !isProgram(order, address)) {
            x.run(0, whose, address);
            x.step(0, 2);
            due.is("the word of enclave " + whose + " behind " + name, x.released(whose), mark(address));
        } else if (whose < 0 && address >= 16) {
            due.is("the system's word behind " + name, x.load(0, address), mark(address));
        }
    }

    private static void fromTheSystem() {
        due.sentence("apart from an untrusted system and from one another");
        for (int[] order : ORDERS) {
            for (int address = 0; address < 256; address++) {
                int whose = enclaveAt(order, address);
                boolean open = whose < 0 && address >= 16;
                for (int p = 0; p < 2; p++) {
                    EnclaveGuards x = machine(order, 0, LOADING, address);
                    String name = "(" + p + ", " + address + ")";
                    due.is("load" + name, x.load(p, address), open ? mark(address) : EnclaveGuards.FAULT);
                    due.is("store" + name, x.store(p, address, 3), open ? 0 : 1);
                    if (!open) {
                        wordIsAsItWas(x, order, address, "the system's store" + name);
                    }
                }
            }
        }
    }

    /** What runs on the other processor is closed too, and so is what the system has there. */
    private static void fromOnesThatRunBeside() {
        due.sentence("on a machine of two processors, by guards that look at every access.");
        int[] order = ORDERS[0];
        for (int e = 0; e < 4; e++) {
            for (int beside = 0; beside < 4; beside++) {
                int last = (PLACES[beside][0] + PLACES[beside][1]) * 16 - 1;
                if (beside != e) {
                    besideOneAnother(order, e, beside, last);
                    besideOneAnother(order, e, beside, firstWord(order, beside) + 2);
                }
            }
        }
    }

    private static void besideOneAnother(int[] order, int e, int beside, int address) {
        for (int right = 1; right <= 4; right *= 2) {
            for (int p = 0; p < 2; p++) {
                EnclaveGuards x = machine(order, e, right, address);
                x.run(1 - p, beside, address);
                x.run(p, e, address);
                x.step(p, 2);
                String name = "enclave " + e + " on " + p + ", right " + right + ", at " + address + " of " + beside;
                due.is("the fault of " + name, x.released(e), FAULTS[right]);
                due.is("load(" + p + ", " + address + ") while it runs", x.load(p, address), EnclaveGuards.FAULT);
                due.is("store(" + p + ", " + address + ") while it runs", x.store(p, address, 3), 1);
                due.is("the steps of the one beside " + name, x.step(1 - p, 2), 2);
                due.is("what the one beside " + name + " loads", x.released(beside), mark(address));
            }
        }
    }

    /** Two that share one word of the system: each sees there what the other stores, while both run. */
    private static void sharedByTwo() {
        due.sentence("something SHARED: a word, a page, or nothing");
        int[] shares = {200, 256 + 12};
        for (int of0 : shares) {
            for (int of1 : shares) {
                EnclaveGuards x = new EnclaveGuards(0);
                Words.put(x, 32, Words.store(1, 0, 200), Words.load(2, 0, 200), Words.exit(2));
                Words.put(x, 48, Words.load(2, 0, 200), Words.store(1, 0, 200), Words.exit(2));
                x.create(0, 2, 1, 32, of0);
                x.create(0, 3, 1, 48, of1);
                x.run(0, 0, 11);
                x.run(1, 1, 22);
                x.step(0, 1);
                x.step(1, 2);
                x.step(0, 2);
                x.step(1, 1);
                due.is("what 0, sharing " + of0 + ", loads behind the store of 1", x.released(0), 22);
                due.is("what 1, sharing " + of1 + ", loads behind the store of 0", x.released(1), 11);
                due.is("load(0, 200)", x.load(0, 200), 22);
            }
        }
    }
}
