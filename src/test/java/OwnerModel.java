/**
 * The document's machine, written a second time for the tests, and in another way: who may access what is decided by
 * the owners of the pages, and the guards are worked out only when they are asked for.
 */
final class OwnerModel {
    private static final int ABSENT = 0;
    private static final int READY = 1;
    private static final int RUNNING = 2;
    private static final int STOPPED = 3;
    private static final int EXITED = 4;
    private static final int FAULTED = 5;

    private final int key;
    private final int[] memory = new int[256];
    private final int[] owner = new int[16];
    private final int[][] systemRegisters = new int[2][8];
    private final int[] runs = {-1, -1};
    private final int[] state = new int[4];
    private final int[] first = new int[4];
    private final int[] pages = new int[4];
    private final int[] entry = new int[4];
    private final int[] shared = new int[4];
    private final int[] measurement = new int[4];
    private final int[] released = new int[4];
    private final int[] pc = new int[4];
    private final int[][] registers = new int[4][8];
    private int denied;

    OwnerModel(int key) {
        this.key = key;
        for (int page = 1; page < 16; page++) {
            owner[page] = 1;
        }
    }

    private boolean busy(int p) {
        return p != 0 && p != 1 || runs[p] >= 0;
    }

    private boolean absent(int e) {
        return e < 0 || e > 3 || state[e] == ABSENT;
    }

    private boolean systemMay(int x) {
        return x >= 0 && x <= 255 && owner[x / 16] == 1;
    }

    private boolean enclaveMay(int e, int x, boolean fetch) {
        if (x < 0 || x > 255) {
            return false;
        }
        if (owner[x / 16] == 2 + e) {
            return true;
        }
        boolean isShared = shared[e] == x || shared[e] == 256 + x / 16;
        return !fetch && isShared && owner[x / 16] == 1;
    }

    long load(int p, int x) {
        if (busy(p)) {
            return EnclaveGuards.NONE;
        }
        if (systemMay(x)) {
            return memory[x];
        }
        denied++;
        return EnclaveGuards.FAULT;
    }

    long store(int p, int x, int v) {
        if (busy(p)) {
            return -1;
        }
        if (systemMay(x)) {
            memory[x] = v;
            return 0;
        }
        denied++;
        return 1;
    }

    long denied() {
        return denied;
    }

    long give(int p, int k, int v) {
        if (busy(p) || k < 0 || k > 7) {
            return 0;
        }
        systemRegisters[p][k] = v;
        return 1;
    }

    long register(int p, int k) {
        return busy(p) || k < 0 || k > 7 ? EnclaveGuards.NONE : systemRegisters[p][k];
    }

    long create(int p, int from, int count, int at, int share) {
        if (busy(p)) {
            return -1;
        }
        if (count < 1 || count > 8 || from < 0 || from > 15 || from + count > 16 || at < 16 * from
            || at > 16 * (from + count) - 1 || share < -1 || share > 271) {
            return -2;
        }
        for (int page = from; page < from + count; page++) {
            if (owner[page] != 1) {
                return -3;
            }
        }
        if (share >= 0) {
            int page = share > 255 ? share - 256 : share / 16;
            if (owner[page] != 1 || page >= from && page < from + count) {
                return -4;
            }
        }
        for (int e = 0; e < 4; e++) {
            if (state[e] == ABSENT) {
                take(e, from, count, at, share);
                return e;
            }
        }
        return -5;
    }

    private void take(int e, int from, int count, int at, int share) {
        state[e] = READY;
        first[e] = from;
        pages[e] = count;
        entry[e] = at;
        shared[e] = share;
        int[] words = new int[16 * count];
        System.arraycopy(memory, 16 * from, words, 0, words.length);
        measurement[e] = Words.measure(count, at - 16 * from, words);
        for (int page = from; page < from + count; page++) {
            owner[page] = 2 + e;
        }
    }

    long run(int p, int e, int argument) {
        if (busy(p)) {
            return -1;
        }
        if (absent(e) || state[e] != READY && state[e] != STOPPED) {
            return -2;
        }
        if (state[e] == READY) {
            registers[e] = new int[] {0, argument, 0, 0, 0, 0, 0, 0};
            pc[e] = entry[e];
        }
        state[e] = RUNNING;
        runs[p] = e;
        return 0;
    }

    long step(int p, int n) {
        if (p != 0 && p != 1 || runs[p] < 0 || n < 1 || n > 100) {
            return -1;
        }
        int e = runs[p];
        int made = 0;
        do {
            made++;
            one(e);
        } while (made < n && state[e] == RUNNING);
        if (state[e] != RUNNING) {
            runs[p] = -1;
        }
        return made;
    }

    private void end(int e, int how, int value) {
        state[e] = how;
        released[e] = value;
    }

    private void one(int e) {
        int here = pc[e];
        if (!enclaveMay(e, here, true)) {
            end(e, FAULTED, 1);
            return;
        }
        int w = memory[here];
        int op = w & 0xf;
        int a = (w & 0x70) / 0x10;
        int b = (w & 0x700) / 0x100;
        int i = (short) (w >>> 16);
        int[] r = registers[e];
        int ra = r[a];
        int rb = r[b];
        boolean may = enclaveMay(e, rb + i, false);
        if (op > 10) {
            end(e, FAULTED, 4);
        } else if (op == 4 && !may) {
            end(e, FAULTED, 2);
        } else if (op == 5 && !may) {
            end(e, FAULTED, 3);
        } else if (op == 0) {
            end(e, EXITED, ra);
        } else {
            pc[e] = op == 6 && ra == 0 ? here + 1 + i : op == 7 ? rb + i : here + 1;
            r[a] = op == 1 ? rb + i : op == 2 ? ra + rb : op == 3 ? ra ^ rb : op == 4 ? memory[rb + i]
                : op == 7 ? here + 1 : op == 8 ? Words.proofOf(key, measurement[e], rb)
                : op == 9 ? Words.secretOf(key, measurement[e]) : ra;
            if (op == 5) {
                memory[rb + i] = ra;
            }
            if (op == 10) {
                state[e] = STOPPED;
            }
        }
    }

    long interrupt(int p) {
        if (p != 0 && p != 1 || runs[p] < 0) {
            return -1;
        }
        int e = runs[p];
        runs[p] = -1;
        state[e] = STOPPED;
        return e;
    }

    long destroy(int p, int e) {
        if (busy(p)) {
            return -1;
        }
        if (absent(e)) {
            return -2;
        }
        if (state[e] == RUNNING) {
            return -3;
        }
        state[e] = ABSENT;
        for (int x = 0; x < 256; x++) {
            if (owner[x / 16] == 2 + e) {
                memory[x] = 0;
            }
        }
        for (int page = 0; page < 16; page++) {
            if (owner[page] == 2 + e) {
                owner[page] = 1;
            }
        }
        return 0;
    }

    long state(int e) {
        return e < 0 || e > 3 ? -1 : state[e];
    }

    long released(int e) {
        return absent(e) || state[e] < EXITED ? EnclaveGuards.NONE : released[e];
    }

    long measurement(int e) {
        return absent(e) ? EnclaveGuards.NONE : measurement[e];
    }

    long verify(int m, int d, int proof) {
        return Words.proofOf(key, m, d) == proof ? 1 : 0;
    }

    long running(int p) {
        return p == 0 || p == 1 ? runs[p] : -2;
    }

    long owner(int page) {
        return page < 0 || page > 15 ? -1 : owner[page];
    }

    long guard(int p, int k, int which) {
        if (p != 0 && p != 1 || k < 0 || k > 10 || which < 0 || which > 2) {
            return -1;
        }
        int[] off = {0, 0, 0};
        if (k == 0) {
            return new int[] {3, 0, 7}[which];
        }
        if (k == 10) {
            return new int[] {3, runs[p] < 0 ? 7 : 0, 127}[which];
        }
        if (k == 9) {
            int share = runs[p] < 0 ? -1 : shared[runs[p]];
            int[] word = {2, 3, share};
            int[] page = {3, 3, 16 * (share - 256) + 7};
            return (share < 0 ? off : share < 256 ? word : page)[which];
        }
        int e = (k - 1) / 2;
        if (state[e] == ABSENT) {
            return 0;
        }
        int n = pages[e];
        boolean block = (n == 1 || n == 2 || n == 4 || n == 8) && first[e] % n == 0;
        int[] lower = {0, 0, block ? 0 : 16 * first[e]};
        int[] upper = {block ? 3 : 1, runs[p] == e ? 7 : 0, 16 * first[e] + (block ? 8 * n - 1 : 16 * n)};
        return (k % 2 == 1 ? lower : upper)[which];
    }
}
