/** Terms: what an enclave has. */
public final class EnclaveTermsTest {
    private static final Due due = new Due();

    public static void main(String[] args) {
        oneToEightPages();
        oneBehindTheOther();
        entry();
        shared();
        states();
        registersThatNobodyElseSees();
        pcThatNobodyElseHas();
        releasedIsAnInt();
        due.finish();
    }

    private static void oneToEightPages() {
        due.sentence("An ENCLAVE has from 1 to 8 PAGES");
        int[] sizes = {0, 1, 2, 7, 8, 9};
        for (int pages : sizes) {
            EnclaveGuards x = new EnclaveGuards(0);
            boolean fits = pages >= 1 && pages <= 8;
            due.is("create of " + pages + " pages", x.create(0, 3, pages, 48, -1), fits ? 0 : -2);
            int its = 0;
            for (int page = 0; page < 16; page++) {
                its += x.owner(page) == 2 ? 1 : 0;
            }
            due.is("the pages of an enclave of " + pages, its, fits ? pages : 0);
        }
    }

    private static void oneBehindTheOther() {
        due.sentence("one behind the other");
        for (int pages = 1; pages <= 8; pages++) {
            EnclaveGuards x = new EnclaveGuards(0);
            x.create(0, 4, pages, 64, -1);
            for (int page = 1; page < 16; page++) {
                due.is("owner(" + page + ") of " + pages, x.owner(page), page >= 4 && page < 4 + pages ? 2 : 1);
            }
        }
    }

    private static void entry() {
        due.sentence("an ENTRY, the address of one of its words");
        int[] entries = {64, 65, 79, 80, 95};
        for (int entry : entries) {
            EnclaveGuards x = new EnclaveGuards(0);
            for (int address = 64; address < 96; address++) {
                x.store(0, address, Words.exit(0));
            }
            x.store(0, entry, Words.exit(1));
            due.is("create with the entry " + entry, x.create(0, 4, 2, entry, -1), 0);
            x.run(0, 0, 5);
            x.step(0, 1);
            due.is("released(0) by the word at " + entry, x.released(0), 5);
        }
    }

    /** An enclave on page 2 that shares this and loads the address: what it released. */
    private static long loads(int shared, int address) {
        EnclaveGuards x = new EnclaveGuards(0);
        Words.put(x, 32, Words.load(2, 0, address), Words.exit(2));
        for (int word = 190; word < 210; word++) {
            x.store(0, word, 1000 + word);
        }
        x.create(0, 2, 1, 32, shared);
        x.run(0, 0, 0);
        x.step(0, 2);
        return x.released(0);
    }

    private static void shared() {
        due.sentence("something SHARED: a word, a page, or nothing");
        int fault = 2;
        for (int address = 190; address < 210; address++) {
            due.is("word 200, a load at " + address, loads(200, address), address == 200 ? 1200 : fault);
            boolean onPage = address >= 192 && address < 208;
            due.is("page 12, a load at " + address, loads(256 + 12, address), onPage ? 1000 + address : fault);
            due.is("nothing, a load at " + address, loads(-1, address), fault);
        }
    }

    private static void states() {
        due.sentence("a STATE: 0 it is not there, 1 READY, 2 RUNNING, 3 STOPPED, 4 EXITED, 5 FAULTED");
        EnclaveGuards x = new EnclaveGuards(0);
        due.is("state(0), not there", x.state(0), 0);
        for (int state = Scene.READY; state <= Scene.FAULTED; state++) {
            due.is("state(0)", Scene.inState(state, 0).state(0), state);
        }
    }

    /** Two that run by turns on one processor, each with its own registers, and the system with its own. */
    private static void registersThatNobodyElseSees() {
        due.sentence("eight registers r0 .. r7 and PC, which nobody else sees");
        for (int k = 0; k < 8; k++) {
            EnclaveGuards x = new EnclaveGuards(0);
            Words.put(x, 32, Words.set(k, 0, 100 + k), Words.yield(), Words.exit(k));
            Words.put(x, 48, Words.yield(), Words.exit(k));
            x.create(0, 2, 1, 32, -1);
            x.create(0, 3, 1, 48, -1);
            x.give(0, k, 500);
            x.run(0, 0, 1);
            x.step(0, 2);
            x.run(0, 1, 2);
            x.step(0, 1);
            due.is("register(0, " + k + ")", x.register(0, k), 500);
            x.run(0, 0, 3);
            x.step(0, 1);
            x.run(0, 1, 4);
            x.step(0, 1);
            due.is("released(0) of r" + k, x.released(0), 100 + k);
            due.is("released(1) of r" + k, x.released(1), k == 1 ? 2 : 0);
            due.is("register(0, " + k + ") in the end", x.register(0, k), 500);
        }
    }

    private static void pcThatNobodyElseHas() {
        due.sentence("eight registers r0 .. r7 and PC, which nobody else sees");
        EnclaveGuards x = new EnclaveGuards(0);
        Words.put(x, 32, Words.set(2, 2, 1), Words.set(2, 2, 10), Words.set(2, 2, 100), Words.exit(2));
        Words.put(x, 48, Words.set(2, 2, 5), Words.exit(2));
        x.create(0, 2, 1, 32, -1);
        x.create(0, 3, 1, 48, -1);
        x.run(0, 0, 0);
        x.run(1, 1, 0);
        x.step(0, 2);
        x.step(1, 1);
        x.step(0, 1);
        x.step(1, 1);
        x.step(0, 1);
        due.is("released(0)", x.released(0), 111);
        due.is("released(1)", x.released(1), 5);
    }

    private static void releasedIsAnInt() {
        due.sentence("and RELEASED, an int.");
        int[] ints = {Integer.MIN_VALUE, -1, 0, 1, Integer.MAX_VALUE};
        for (int v : ints) {
            EnclaveGuards x = Scene.ready(2, Words.exit(1));
            x.run(0, 0, v);
            x.step(0, 1);
            due.is("released(0) of " + v, x.released(0), v);
        }
    }
}
