/** Terms: the memory with its pages, and the processors with the system's registers. */
public final class MemoryTest {
    private static final Due due = new Due();

    public static void main(String[] args) {
        addresses();
        allZeroAtFirst();
        pagesOfSixteen();
        pageZeroIsTheMonitors();
        pagesOfTheSystemOrOfAnEnclave();
        twoProcessors();
        eightRegisters();
        registersAreKept();
        due.finish();
    }

    private static void addresses() {
        due.sentence("MEMORY: 256 words (ints) at the addresses 0 .. 255");
        EnclaveGuards x = new EnclaveGuards(0);
        due.is("store(0, 254)", x.store(0, 254, Integer.MIN_VALUE), 0);
        due.is("store(0, 255)", x.store(0, 255, Integer.MAX_VALUE), 0);
        due.is("store(0, 256)", x.store(0, 256, 3), 1);
        due.is("store(0, -1)", x.store(0, -1, 3), 1);
        due.is("load(0, 254)", x.load(0, 254), Integer.MIN_VALUE);
        due.is("load(0, 255)", x.load(0, 255), Integer.MAX_VALUE);
        due.is("load(0, 256)", x.load(0, 256), EnclaveGuards.FAULT);
        due.is("load(0, -1)", x.load(0, -1), EnclaveGuards.FAULT);
        for (int address = 16; address < 256; address++) {
            x.store(0, address, 1000 + address);
        }
        for (int address = 16; address < 256; address++) {
            due.is("load(1, " + address + "), each word its own", x.load(1, address), 1000 + address);
        }
    }

    private static void allZeroAtFirst() {
        due.sentence("all 0 at first");
        EnclaveGuards x = new EnclaveGuards(-1);
        for (int address = 16; address < 256; address++) {
            due.is("load(0, " + address + ")", x.load(0, address), 0);
        }
    }

    /** The system has the words up to the page's first and from behind its last on, and none of the page's. */
    private static void pagesOfSixteen() {
        due.sentence("in 16 PAGES of 16");
        for (int page = 1; page < 16; page++) {
            EnclaveGuards x = Scene.ready(page);
            for (int address = 16; address < 256; address++) {
                boolean its = address / 16 == page;
                due.is("load(0, " + address + "), page " + page, x.load(0, address), its ? EnclaveGuards.FAULT : 0);
            }
        }
        EnclaveGuards x = new EnclaveGuards(0);
        due.is("owner(15)", x.owner(15), 1);
        due.is("owner(16)", x.owner(16), -1);
    }

    private static void pageZeroIsTheMonitors() {
        due.sentence("Page 0 is the MONITOR's");
        EnclaveGuards x = new EnclaveGuards(0);
        due.is("owner(0)", x.owner(0), 0);
        due.is("owner(1)", x.owner(1), 1);
        for (int p = 0; p < 2; p++) {
            for (int address = 0; address < 16; address++) {
                due.is("load(" + p + ", " + address + ")", x.load(p, address), EnclaveGuards.FAULT);
                due.is("store(" + p + ", " + address + ")", x.store(p, address, 1), 1);
            }
            due.is("load(" + p + ", 16)", x.load(p, 16), 0);
            due.is("store(" + p + ", 16)", x.store(p, 16, 0), 0);
        }
        due.is("create of page 0", x.create(0, 0, 1, 0, -1), -3);
        due.is("create with page 0 shared", x.create(0, 1, 1, 16, 256), -4);
        int[] touching = {Words.load(2, 0, 15), Words.store(2, 0, 15), Words.jump(2, 0, 15)};
        int[] faults = {2, 3, 1};
        for (int k = 0; k < 3; k++) {
            EnclaveGuards y = Scene.ready(1, touching[k]);
            y.run(0, 0, 0);
            y.step(0, 2);
            due.is("released(0): the fault of an enclave at word 15", y.released(0), faults[k]);
            due.is("owner(0) behind it", y.owner(0), 0);
        }
    }

    private static void pagesOfTheSystemOrOfAnEnclave() {
        due.sentence("each other page belongs to the SYSTEM, at first, or to one of the ENCLAVES 0 .. 3");
        EnclaveGuards x = new EnclaveGuards(0);
        for (int page = 1; page < 16; page++) {
            due.is("owner(" + page + ") at first", x.owner(page), 1);
        }
        int[] firsts = {1, 2, 14, 15};
        for (int e = 0; e < 4; e++) {
            x.create(0, firsts[e], 1, firsts[e] * 16, -1);
        }
        for (int page = 1; page < 16; page++) {
            int want = page == 1 ? 2 : page == 2 ? 3 : page == 14 ? 4 : page == 15 ? 5 : 1;
            due.is("owner(" + page + ")", x.owner(page), want);
        }
    }

    private static void twoProcessors() {
        due.sentence("PROCESSORS 0 and 1: each RUNS the system (at first) or an enclave");
        EnclaveGuards x = Scene.ready(2);
        due.is("running(-1)", x.running(-1), -2);
        due.is("running(0)", x.running(0), -1);
        due.is("running(1)", x.running(1), -1);
        due.is("running(2)", x.running(2), -2);
        x.run(1, 0, 0);
        due.is("running(0) beside it", x.running(0), -1);
        due.is("running(1) with it", x.running(1), 0);
    }

    private static void eightRegisters() {
        due.sentence("has eight registers 0 .. 7 of the system, all 0 at first");
        EnclaveGuards x = new EnclaveGuards(0);
        for (int p = 0; p < 2; p++) {
            due.is("register(" + p + ", -1)", x.register(p, -1), EnclaveGuards.NONE);
            due.is("register(" + p + ", 8)", x.register(p, 8), EnclaveGuards.NONE);
            for (int k = 0; k < 8; k++) {
                due.is("register(" + p + ", " + k + ")", x.register(p, k), 0);
            }
        }
    }

    private static void registersAreKept() {
        due.sentence("which are kept while an enclave runs");
        for (int state = Scene.STOPPED; state <= Scene.FAULTED; state++) {
            for (int p = 0; p < 2; p++) {
                keptBehind(state, p);
            }
        }
        keptWhileItSetsItsOwn();
    }

    /** The registers of both processors behind an enclave's run on p, which ends in this state. */
    private static void keptBehind(int state, int p) {
        EnclaveGuards x = Scene.ready(2, state == Scene.STOPPED ? Words.set(0, 0, 1) : Scene.ending(state));
        for (int k = 0; k < 8; k++) {
            x.give(0, k, 50 + k);
            x.give(1, k, 70 + k);
        }
        x.run(p, 0, -1);
        x.step(p, 1);
        x.interrupt(p);
        due.is("state(0)", x.state(0), state);
        for (int k = 0; k < 8; k++) {
            due.is("register(0, " + k + ") behind a run on " + p, x.register(0, k), 50 + k);
            due.is("register(1, " + k + ") behind a run on " + p, x.register(1, k), 70 + k);
        }
    }

    private static void keptWhileItSetsItsOwn() {
        EnclaveGuards x = new EnclaveGuards(0);
        Words.put(x, 32, Scene.folding());
        x.create(0, 2, 2, 32, -1);
        for (int k = 0; k < 8; k++) {
            x.give(0, k, 50 + k);
            x.give(1, k, 70 + k);
        }
        for (int p = 0; p < 2; p++) {
            x.run(p, 0, 5);
            due.is("give(1 - p) beside it", x.give(1 - p, 0, 90), true);
            x.step(p, 100);
            for (int k = 0; k < 8; k++) {
                long kept = k == 0 && p == 1 ? 90 : 50 + k;
                due.is("register(0, " + k + ") behind a run on " + p, x.register(0, k), kept);
                due.is("register(1, " + k + ") behind a run on " + p, x.register(1, k), k == 0 ? 90 : 70 + k);
            }
        }
    }
}
