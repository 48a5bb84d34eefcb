/** Terms: the guards, what each mode matches, what is allowed, and how the guards are set at any time. */
public final class GuardTermsTest {
    private static final int[] OUTSIDE = {-1, 256, Integer.MIN_VALUE, Integer.MAX_VALUE};
    private static final int LOADING = 1;
    private static final int STORING = 2;
    private static final int FETCHING = 4;
    private static final Due due = new Due();

    public static void main(String[] args) {
        elevenGuardsOfFourModes();
        offMatchesNothing();
        rangeMatches();
        wordMatches();
        blockMatches();
        blockOf();
        onlyAddressesOfWords();
        theFirstThatMatches();
        rightsForEach();
        monitorsGuard();
        lastGuard();
        enclavesGuards();
        enclavesRights();
        noEnclaveNoGuard();
        sharedWordsGuard();
        sharedPagesGuard();
        sharedGuardIsElseOff();
        offHasNoRights();
        due.finish();
    }

    private static void isGuard(EnclaveGuards x, int p, int k, int mode, int rights, int address) {
        String name = "guard(" + p + ", " + k + ", ";
        due.is(name + "0)", x.guard(p, k, 0), mode);
        due.is(name + "1)", x.guard(p, k, 1), rights);
        due.is(name + "2)", x.guard(p, k, 2), address);
    }

    private static boolean isBlock(int first, int pages) {
        return (pages == 1 || pages == 2 || pages == 4 || pages == 8) && first % pages == 0;
    }

    private static int wordFor(int right) {
        return right == LOADING ? Words.load(2, 1, 0) : right == STORING ? Words.store(2, 1, 0) : Words.jump(2, 1, 0);
    }

    /** An enclave 0 that does one access to the address that it is run with. */
    private static EnclaveGuards accessing(int right, int first, int pages, int shared) {
        EnclaveGuards x = new EnclaveGuards(0);
        Words.put(x, first * 16, wordFor(right));
        x.create(0, first, pages, first * 16, shared);
        return x;
    }

    /** Whether the enclave e, which does one access, may do it at the address. */
    private static boolean may(EnclaveGuards x, int e, int address) {
        x.run(1, e, address);
        // The second step of a jump is the fetch.
        x.step(1, 2);
        return x.state(e) != Scene.FAULTED;
    }

    private static void mayInsideAlone(int right, int first, int pages, int address) {
        boolean inside = address >= first * 16 && address < (first + pages) * 16;
        EnclaveGuards x = accessing(right, first, pages, -1);
        String name = "an enclave of " + pages + " from page " + first + ", right " + right + ", at " + address;
        due.is(name, may(x, 0, address), inside);
    }

    /** Who is let to what by the guards of enclaves in a range, or of enclaves in a block. */
    private static void layouts(boolean blocks) {
        for (int first = 1; first < 16; first++) {
            for (int pages = 1; pages <= 8 && first + pages <= 16; pages++) {
                if (isBlock(first, pages) == blocks) {
                    oneLayout(first, pages);
                }
            }
        }
    }

    private static void oneLayout(int first, int pages) {
        for (int address = 0; address < 256; address++) {
            mayInsideAlone(LOADING, first, pages, address);
            mayInsideAlone(STORING, first, pages, address);
            mayInsideAlone(FETCHING, first, pages, address);
        }
        EnclaveGuards x = new EnclaveGuards(0);
        x.create(0, first, pages, first * 16, -1);
        for (int address = 16; address < 256; address++) {
            boolean inside = address >= first * 16 && address < (first + pages) * 16;
            due.is("the system's load(0, " + address + "), " + pages + " from page " + first, x.load(0, address),
                inside ? EnclaveGuards.FAULT : 0);
        }
    }

    private static void elevenGuardsOfFourModes() {
        due.sentence("Each processor has guards 0 .. 10, each with a MODE (0 OFF, 1 RANGE, 2 WORD, 3 BLOCK)");
        EnclaveGuards x = accessing(LOADING, 1, 3, 200);
        x.run(0, 0, 0);
        int[] modes = {3, 0, 1, 0, 0, 0, 0, 0, 0, 2, 3};
        for (int k = 0; k < 11; k++) {
            due.is("guard(0, " + k + ", 0)", x.guard(0, k, 0), modes[k]);
            due.is("guard(1, " + k + ", 0)", x.guard(1, k, 0), k == 9 ? 0 : modes[k]);
        }
        for (int p = 0; p < 2; p++) {
            due.is("guard(" + p + ", -1, 0)", x.guard(p, -1, 0), -1);
            due.is("guard(" + p + ", 11, 0)", x.guard(p, 11, 0), -1);
        }
    }

    /** The OFF guard before a RANGE has the address of the first word, and must not take it from the RANGE. */
    private static void offMatchesNothing() {
        due.sentence("OFF matches no address.");
        EnclaveGuards x = accessing(LOADING, 1, 2, -1);
        isGuard(x, 1, 1, 0, 0, 16);
        due.is("a load at the OFF guard's address", may(x, 0, 16), true);
        EnclaveGuards y = new EnclaveGuards(0);
        y.create(0, 1, 2, 16, -1);
        y.destroy(0, 0);
        isGuard(y, 0, 2, 0, 0, 0);
        due.is("load(0, 16) behind destroy", y.load(0, 16), 0);
        due.is("load(0, 47) behind destroy", y.load(0, 47), 0);
    }

    private static void rangeMatches() {
        due.sentence("RANGE matches x when the ADDRESS of the guard with the number before is x or less, and its own is"
            + " more than x.");
        layouts(false);
    }

    private static void wordMatches() {
        due.sentence("WORD matches its ADDRESS.");
        int[] shared = {16, 17, 31, 127, 128, 143, 240, 254, 255};
        for (int word : shared) {
            for (int address = 0; address < 256; address++) {
                boolean its = address / 16 == 2;
                String name = "shared " + word + ", at " + address;
                due.is("a load, " + name, may(accessing(LOADING, 2, 1, word), 0, address), its || address == word);
                due.is("a store, " + name, may(accessing(STORING, 2, 1, word), 0, address), its || address == word);
            }
        }
    }

    private static void blockMatches() {
        due.sentence("BLOCK, its ADDRESS ending in just t ones when it is written in twos, matches x when x and the"
            + " ADDRESS, both divided by 2 to the t + 1 and cut, are the same");
        layouts(true);
        for (int page = 1; page < 16; page++) {
            if (page != 2) {
                for (int address = 0; address < 256; address++) {
                    boolean open = address / 16 == 2 || address / 16 == page;
                    String name = "page " + page + " shared, at " + address;
                    due.is("a load, " + name, may(accessing(LOADING, 2, 1, 256 + page), 0, address), open);
                    due.is("a store, " + name, may(accessing(STORING, 2, 1, 256 + page), 0, address), open);
                }
            }
        }
    }

    private static void blockOf() {
        due.sentence("2 to the k words from b on, a multiple of their number, are matched by the ADDRESS b + 2 to the"
            + " (k - 1) - 1: the BLOCK OF these words.");
        int[][] blocks = {{1, 1, 23}, {2, 1, 39}, {15, 1, 247}, {2, 2, 47}, {14, 2, 239}, {4, 4, 95}, {12, 4, 223},
            {8, 8, 191}};
        for (int[] block : blocks) {
            EnclaveGuards x = new EnclaveGuards(0);
            x.create(0, block[0], block[1], block[0] * 16, -1);
            isGuard(x, 0, 2, 3, 0, block[2]);
        }
    }

    private static void onlyAddressesOfWords() {
        due.sentence("An access to x is ALLOWED when x is 0 .. 255");
        int[] folded = {256 + 32, 512 + 32, 32 - 256, 65536 + 32, Integer.MIN_VALUE + 32};
        for (int right = 1; right <= 4; right *= 2) {
            for (int x : OUTSIDE) {
                due.is("right " + right + " at " + x, may(accessing(right, 2, 1, -1), 0, x), false);
                due.is("right " + right + " at " + x + ", the last page", may(accessing(right, 15, 1, -1), 0, x), false);
            }
            for (int x : folded) {
                due.is("right " + right + " at " + x, may(accessing(right, 2, 1, -1), 0, x), false);
            }
            due.is("right " + right + " at 255", may(accessing(right, 15, 1, -1), 0, 255), true);
        }
        EnclaveGuards x = new EnclaveGuards(0);
        for (int address : OUTSIDE) {
            due.is("load(0, " + address + ")", x.load(0, address), EnclaveGuards.FAULT);
            due.is("store(0, " + address + ")", x.store(0, address, 1), 1);
        }
        for (int address : folded) {
            due.is("load(0, " + address + ")", x.load(0, address), EnclaveGuards.FAULT);
            due.is("store(0, " + address + ")", x.store(0, address, 1), 1);
        }
        due.is("load(0, 32)", x.load(0, 32), 0);
        due.is("load(0, 255)", x.load(0, 255), 0);
    }

    /** What an enclave shares may become another's page: that one's guard comes before guard 9. */
    private static void theFirstThatMatches() {
        due.sentence("the first of the processor's guards that matches x has the right for it");
        int[] shared = {200, 256 + 12};
        int[][] takers = {{12, 1}, {11, 3}};
        for (int share : shared) {
            for (int[] taker : takers) {
                for (int right = LOADING; right <= STORING; right++) {
                    EnclaveGuards x = accessing(right, 2, 1, share);
                    x.create(0, taker[0], taker[1], taker[0] * 16, -1);
                    due.is("a page taken by enclave 1, of 0", may(x, 0, 200), false);
                    EnclaveGuards y = new EnclaveGuards(0);
                    y.create(0, 5, 1, 80, -1);
                    Words.put(y, 32, wordFor(right));
                    y.create(0, 2, 1, 32, share);
                    y.destroy(0, 0);
                    y.create(0, taker[0], taker[1], taker[0] * 16, -1);
                    due.is("a page taken by enclave 0, of 1", may(y, 1, 200), false);
                }
            }
        }
        EnclaveGuards x = accessing(LOADING, 2, 1, 200);
        x.create(0, 12, 1, 192, -1);
        x.run(1, 0, 200);
        isGuard(x, 1, 9, 2, 3, 200);
        x.destroy(0, 1);
        due.is("given back, it is open again: step(1, 2)", x.step(1, 2), 2);
        due.is("given back, it is open again: state(0)", x.state(0), Scene.EXITED);
    }

    private static void rightsForEach() {
        due.sentence("RIGHTS (the sum of 1 for loading, 2 for storing, 4 for fetching)");
        for (int right = 1; right <= 4; right *= 2) {
            due.is("its own, right " + right, may(accessing(right, 2, 1, 200), 0, 33), true);
            due.is("a shared word, right " + right, may(accessing(right, 2, 1, 200), 0, 200), right != FETCHING);
            due.is("a shared page, right " + right, may(accessing(right, 2, 1, 268), 0, 200), right != FETCHING);
            due.is("the system's, right " + right, may(accessing(right, 2, 1, -1), 0, 200), false);
        }
    }

    private static void monitorsGuard() {
        due.sentence("0: the BLOCK OF page 0, rights 0.");
        for (int state = Scene.READY; state <= Scene.FAULTED; state++) {
            EnclaveGuards x = Scene.inState(state, 1);
            isGuard(x, 0, 0, 3, 0, 7);
            isGuard(x, 1, 0, 3, 0, 7);
        }
        isGuard(new EnclaveGuards(0), 0, 0, 3, 0, 7);
    }

    private static void lastGuard() {
        due.sentence("10: the BLOCK OF all 256 words, rights 7 if the processor runs the system, else 0.");
        isGuard(new EnclaveGuards(0), 0, 10, 3, 7, 127);
        isGuard(new EnclaveGuards(0), 1, 10, 3, 7, 127);
        for (int state = Scene.READY; state <= Scene.FAULTED; state++) {
            for (int p = 0; p < 2; p++) {
                EnclaveGuards x = Scene.inState(state, p);
                isGuard(x, p, 10, 3, state == Scene.RUNNING ? 0 : 7, 127);
                isGuard(x, 1 - p, 10, 3, 7, 127);
            }
        }
    }

    private static void areEnclaveGuards(EnclaveGuards x, int p, int e, int first, int pages, int rights) {
        boolean block = isBlock(first, pages);
        isGuard(x, p, 1 + 2 * e, 0, 0, block ? 0 : first * 16);
        isGuard(x, p, 2 + 2 * e, block ? 3 : 1, rights, first * 16 + (block ? pages * 8 - 1 : pages * 16));
    }

    private static void enclavesGuards() {
        due.sentence("if it has n pages, n is 1, 2, 4 or 8, and its first page is a multiple of n: 2 + 2e is the BLOCK OF"
            + " its words, and 1 + 2e is OFF with the ADDRESS 0; else 2 + 2e is a RANGE with the ADDRESS of the word"
            + " behind its last one, and 1 + 2e is OFF with the ADDRESS of its first word.");
        for (int first = 1; first < 16; first++) {
            for (int pages = 1; pages <= 8 && first + pages <= 16; pages++) {
                EnclaveGuards x = new EnclaveGuards(0);
                x.create(0, first, pages, first * 16, -1);
                areEnclaveGuards(x, 0, 0, first, pages, 0);
                areEnclaveGuards(x, 1, 0, first, pages, 0);
                x.run(1, 0, 0);
                areEnclaveGuards(x, 1, 0, first, pages, 7);
            }
        }
        EnclaveGuards x = new EnclaveGuards(0);
        x.create(0, 8, 8, 128, -1);
        isGuard(x, 0, 1, 0, 0, 0);
        isGuard(x, 0, 2, 3, 0, 191);
        EnclaveGuards y = new EnclaveGuards(0);
        y.create(0, 9, 7, 144, -1);
        isGuard(y, 0, 1, 0, 0, 144);
        isGuard(y, 0, 2, 1, 0, 256);
    }

    private static void enclavesRights() {
        due.sentence("1 + 2e and 2 + 2e for enclave e, 2 + 2e having the rights 7 if it runs on this processor, else 0");
        int[] firsts = {1, 4, 8, 11};
        int[] sizes = {3, 4, 2, 5};
        for (int on0 = 0; on0 < 4; on0++) {
            int on1 = (on0 + 1) % 4;
            EnclaveGuards x = new EnclaveGuards(0);
            for (int e = 0; e < 4; e++) {
                x.create(0, firsts[e], sizes[e], firsts[e] * 16, -1);
            }
            x.run(0, on0, 0);
            x.run(1, on1, 0);
            for (int e = 0; e < 4; e++) {
                areEnclaveGuards(x, 0, e, firsts[e], sizes[e], e == on0 ? 7 : 0);
                areEnclaveGuards(x, 1, e, firsts[e], sizes[e], e == on1 ? 7 : 0);
            }
        }
        for (int state = Scene.READY; state <= Scene.FAULTED; state++) {
            EnclaveGuards x = Scene.inState(state, 1);
            areEnclaveGuards(x, 0, 0, 2, 1, 0);
            areEnclaveGuards(x, 1, 0, 2, 1, state == Scene.RUNNING ? 7 : 0);
        }
    }

    private static void noEnclaveNoGuard() {
        due.sentence("If there is no enclave e, both are OFF with ADDRESS 0.");
        EnclaveGuards x = new EnclaveGuards(0);
        for (int e = 0; e < 4; e++) {
            isGuard(x, 0, 1 + 2 * e, 0, 0, 0);
            isGuard(x, 1, 2 + 2 * e, 0, 0, 0);
            x.create(0, 1 + 3 * e, 3, 16 + 48 * e, -1);
        }
        for (int e = 3; e >= 0; e--) {
            x.destroy(1, e);
            for (int p = 0; p < 2; p++) {
                isGuard(x, p, 1 + 2 * e, 0, 0, 0);
                isGuard(x, p, 2 + 2 * e, 0, 0, 0);
            }
        }
    }

    /** The guard 9 of an enclave that shares this, before, while and after it runs on one processor and on the other. */
    private static void sharedGuard(int shared, int mode, int address) {
        EnclaveGuards x = new EnclaveGuards(0);
        x.create(0, 5, 1, 80, shared);
        for (int p = 0; p < 2; p++) {
            isGuard(x, p, 9, 0, 0, 0);
            x.run(p, 0, 0);
            isGuard(x, p, 9, mode, 3, address);
            isGuard(x, 1 - p, 9, 0, 0, 0);
            x.interrupt(p);
            isGuard(x, p, 9, 0, 0, 0);
        }
    }

    private static void sharedWordsGuard() {
        due.sentence("9: if an enclave with a shared word runs on this processor: the WORD");
        int[] words = {16, 17, 79, 96, 127, 128, 254, 255};
        for (int word : words) {
            sharedGuard(word, 2, word);
        }
    }

    private static void sharedPagesGuard() {
        due.sentence("if one with a shared page: the BLOCK OF this page, rights 3");
        for (int page = 1; page < 16; page++) {
            if (page != 5) {
                sharedGuard(256 + page, 3, page * 16 + 7);
            }
        }
    }

    private static void sharedGuardIsElseOff() {
        due.sentence("else OFF with ADDRESS 0.");
        for (int state = Scene.READY; state <= Scene.FAULTED; state++) {
            isGuard(Scene.inState(state, 0), 0, 9, 0, 0, 0);
        }
        int[] ends = {Words.exit(0), Words.yield(), 15};
        for (int end : ends) {
            EnclaveGuards x = new EnclaveGuards(0);
            Words.put(x, 32, end);
            x.create(0, 2, 1, 32, 200);
            x.run(0, 0, 0);
            isGuard(x, 0, 9, 2, 3, 200);
            x.step(0, 1);
            isGuard(x, 0, 9, 0, 0, 0);
        }
        // A number that comes again must not bring what its last enclave shared.
        EnclaveGuards x = new EnclaveGuards(0);
        x.create(0, 2, 1, 32, 200);
        x.destroy(0, 0);
        x.create(0, 2, 1, 32, -1);
        x.run(0, 0, 0);
        isGuard(x, 0, 9, 0, 0, 0);
    }

    private static void offHasNoRights() {
        due.sentence("An OFF guard has the rights 0.");
        EnclaveGuards x = new EnclaveGuards(0);
        x.create(0, 1, 3, 16, -1);
        x.create(0, 4, 4, 64, -1);
        x.run(0, 0, 0);
        x.run(1, 1, 0);
        for (int p = 0; p < 2; p++) {
            for (int k = 0; k < 11; k++) {
                if (k != 0 && k != 2 && k != 4 && k != 10) {
                    due.is("guard(" + p + ", " + k + ", 0)", x.guard(p, k, 0), 0);
                    due.is("guard(" + p + ", " + k + ", 1)", x.guard(p, k, 1), 0);
                }
            }
        }
    }
}
