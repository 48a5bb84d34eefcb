/** Machines with a past, which the tests of several promises begin from. */
final class Scene {
    static final int KEY = 4711;
    static final int READY = 1;
    static final int RUNNING = 2;
    static final int STOPPED = 3;
    static final int EXITED = 4;
    static final int FAULTED = 5;

    /** Numbers that no processor, register, enclave, page or guard has. */
    static final int[] FAR_OFF = {-2, -1000, 1000, Integer.MIN_VALUE, Integer.MIN_VALUE + 1, Integer.MAX_VALUE - 1,
        Integer.MAX_VALUE};

    private static final int[] FOLDED = {0, 2, 3, 4, 5, 6, 7};

    private Scene() {
    }

    /** An enclave of one page, its number 0, that shares nothing and has these words from its first, the entry, on. */
    static EnclaveGuards ready(int page, int... words) {
        EnclaveGuards x = new EnclaveGuards(KEY);
        Words.put(x, page * 16, words);
        x.create(0, page, 1, page * 16, -1);
        return x;
    }

    /** The word that brings an enclave which runs to this state; for READY and RUNNING, one that is not done. */
    static int ending(int state) {
        return state == STOPPED ? Words.yield() : state == FAULTED ? Words.word(11, 0, 0, 0) : Words.exit(1);
    }

    /** The enclave 0 on page 2, alone and in this state; it runs, or has run, on the processor, with 77 in r1. */
    static EnclaveGuards inState(int state, int processor) {
        EnclaveGuards x = ready(2, ending(state), Words.exit(1));
        if (state != READY) {
            x.run(processor, 0, 77);
        }
        if (state > RUNNING) {
            x.step(processor, 1);
        }
        return x;
    }

    /** Sets the registers but r1, yields, and then releases a number in which each of the eight counts. */
    static int[] folding() {
        int[] words = new int[3 * FOLDED.length + 2];
        int at = 0;
        for (int k : FOLDED) {
            words[at++] = Words.set(k, k, 11 * k + 5);
        }
        words[at++] = Words.yield();
        for (int k : FOLDED) {
            words[at++] = Words.add(1, 1);
            words[at++] = Words.xor(1, k);
        }
        words[at] = Words.exit(1);
        return words;
    }

    /**
     * Four enclaves: 0 on pages 1 to 3, RUNNING on processor 1 with all its registers set; 1 on pages 4 and 5, STOPPED;
     * 2 on page 6, READY; 3 on pages 7 and 8, EXITED. The pages from 9 on and processor 0 are the system's.
     */
    static void fourEnclaves(EnclaveGuards x) {
        Words.put(x, 16, folding());
        Words.put(x, 64, folding());
        Words.put(x, 96, Words.exit(1));
        Words.put(x, 112, Words.exit(1));
        Words.put(x, 144, -9);
        Words.put(x, 200, -200);
        Words.put(x, 255, -255);
        x.give(0, 0, 30);
        x.give(0, 7, 37);
        x.give(1, 0, 40);
        x.give(1, 7, 47);
        x.create(0, 1, 3, 16, 200);
        x.create(0, 4, 2, 64, 256 + 13);
        x.create(0, 6, 1, 96, -1);
        x.create(0, 7, 2, 112, -1);
        x.run(0, 3, 33);
        x.step(0, 1);
        x.run(0, 1, 11);
        x.step(0, 100);
        x.run(1, 0, 10);
        x.step(1, 7);
        x.load(0, 0);
    }

    /** As fourEnclaves, but the number 3 is free. */
    static void threeEnclaves(EnclaveGuards x) {
        fourEnclaves(x);
        x.destroy(0, 3);
    }

    /** As fourEnclaves, but 1 runs on processor 0. */
    static void bothBusy(EnclaveGuards x) {
        fourEnclaves(x);
        x.run(0, 1, 0);
        x.step(0, 3);
    }

    /** As fourEnclaves, but no enclave runs: 0 is STOPPED too, and 2 is FAULTED. */
    static void noneRuns(EnclaveGuards x) {
        fourEnclaves(x);
        x.interrupt(1);
        x.destroy(1, 2);
        Words.put(x, 96, Words.word(15, 0, 0, 0));
        x.create(0, 6, 1, 96, -1);
        x.run(1, 2, 0);
        x.step(1, 1);
    }
}
