/** Promise 18: guard; and that the guards open to each just what is its own. */
public final class GuardTest {
    private static final Due due = new Due();

    public static void main(String[] args) {
        everyLayout();
        everyNumber();
        sharedGuards();
        wrongArguments();
        guardsOpenWhatTheySay();
        aSharedPageThatAnotherTakes();
        due.finish();
    }

    private static void isGuard(EnclaveGuards x, int p, int k, int mode, int rights, int address) {
        String name = "guard(" + p + ", " + k + ", ";
        due.is(name + "0)", x.guard(p, k, 0), mode);
        due.is(name + "1)", x.guard(p, k, 1), rights);
        due.is(name + "2)", x.guard(p, k, 2), address);
    }

    private static boolean isBlock(int first, int pages) {
        switch (pages) {
            case 1:
            case 2:
            case 4:
            case 8:
                return first % pages == 0;
            default:
                return false;
        }
    }

    private static void areEnclaveGuards(EnclaveGuards x, int p, int k, int first, int pages, int rights) {
        if (isBlock(first, pages)) {
            isGuard(x, p, k, 0, 0, 0);
            isGuard(x, p, k + 1, 3, rights, first * 16 + pages * 8 - 1);
        } else {
            isGuard(x, p, k, 0, 0, first * 16);
            isGuard(x, p, k + 1, 1, rights, (first + pages) * 16);
        }
    }

    private static void everyLayout() {
        for (int first = 1; first < 16; first++) {
            for (int pages = 1; pages <= 8 && first + pages <= 16; pages++) {
                EnclaveGuards x = new EnclaveGuards(0);
                x.create(0, first, pages, first * 16, -1);
                areEnclaveGuards(x, 0, 1, first, pages, 0);
                areEnclaveGuards(x, 1, 1, first, pages, 0);
                x.run(1, 0, 0);
                areEnclaveGuards(x, 0, 1, first, pages, 0);
                areEnclaveGuards(x, 1, 1, first, pages, 7);
                isGuard(x, 0, 10, 3, 7, 127);
                isGuard(x, 1, 10, 3, 0, 127);
                isGuard(x, 1, 0, 3, 0, 7);
                isGuard(x, 1, 9, 0, 0, 0);
                x.interrupt(1);
                areEnclaveGuards(x, 1, 1, first, pages, 0);
                isGuard(x, 1, 10, 3, 7, 127);
            }
        }
    }

    private static void everyNumber() {
        EnclaveGuards x = new EnclaveGuards(0);
        int[] firsts = {1, 4, 8, 11};
        int[] sizes = {3, 4, 2, 5};
        for (int e = 0; e < 4; e++) {
            x.create(0, firsts[e], sizes[e], firsts[e] * 16, -1);
        }
        x.run(0, 2, 0);
        x.run(1, 3, 0);
        for (int e = 0; e < 4; e++) {
            areEnclaveGuards(x, 0, 1 + 2 * e, firsts[e], sizes[e], e == 2 ? 7 : 0);
            areEnclaveGuards(x, 1, 1 + 2 * e, firsts[e], sizes[e], e == 3 ? 7 : 0);
        }
        x.interrupt(0);
        x.destroy(0, 0);
        for (int p = 0; p < 2; p++) {
            isGuard(x, p, 1, 0, 0, 0);
            isGuard(x, p, 2, 0, 0, 0);
            areEnclaveGuards(x, p, 7, 11, 5, p == 1 ? 7 : 0);
        }
    }

    private static void sharedGuards() {
        int[] words = {16, 17, 127, 128, 255};
        for (int shared : words) {
            sharedGuard(shared, 2, shared);
        }
        for (int page = 1; page < 16; page++) {
            if (page != 5) {
                sharedGuard(256 + page, 3, page * 16 + 7);
            }
        }
    }

    private static void sharedGuard(int shared, int mode, int address) {
        EnclaveGuards x = new EnclaveGuards(0);
        x.create(0, 5, 1, 80, shared);
        isGuard(x, 0, 9, 0, 0, 0);
        x.run(0, 0, 0);
        isGuard(x, 0, 9, mode, 3, address);
        isGuard(x, 1, 9, 0, 0, 0);
        x.interrupt(0);
        isGuard(x, 0, 9, 0, 0, 0);
        x.run(1, 0, 0);
        isGuard(x, 0, 9, 0, 0, 0);
        isGuard(x, 1, 9, mode, 3, address);
    }

    private static void wrongArguments() {
        EnclaveGuards x = new EnclaveGuards(0);
        int[] wrong = {-1, Integer.MIN_VALUE, Integer.MAX_VALUE, 11, 12};
        for (int k : wrong) {
            due.is("guard(0, " + k + ", 0)", x.guard(0, k, 0), -1);
            due.is("guard(" + k + ", 0, 0)", x.guard(k, 0, 0), -1);
            due.is("guard(0, 0, " + k + ")", x.guard(0, 0, k), -1);
        }
        due.is("guard(2, 0, 0)", x.guard(2, 0, 0), -1);
        due.is("guard(0, 0, 3)", x.guard(0, 0, 3), -1);
        due.is("guard(1, 10, 2)", x.guard(1, 10, 2), 127);
    }

    /** Whether the first guard that matches x has the right, by the words of the document over what guard answers. */
    private static boolean opens(int[][] guards, int x, int right) {
        for (int k = 0; k < guards.length; k++) {
            int mode = guards[k][0];
            int address = guards[k][2];
            boolean matches = false;
            if (mode == 1) {
                matches = guards[k - 1][2] <= x && address > x;
            } else if (mode == 2) {
                matches = address == x;
            } else if (mode == 3) {
                int size = 2 << Integer.numberOfTrailingZeros(~address);
                matches = x / size == address / size;
            }
            if (matches) {
                return (guards[k][1] & right) == right;
            }
        }
        return false;
    }

    private static int[][] guardsOf(EnclaveGuards x, int p) {
        int[][] guards = new int[11][3];
        for (int k = 0; k < 11; k++) {
            for (int which = 0; which < 3; which++) {
                guards[k][which] = x.guard(p, k, which);
            }
        }
        return guards;
    }

    /** Another enclave at page 9, one of every layout that leaves it there, and the system: who is let to what. */
    private static void guardsOpenWhatTheySay() {
        for (int first = 1; first < 9; first++) {
            for (int pages = 1; pages <= 8 && first + pages <= 9; pages++) {
                EnclaveGuards x = new EnclaveGuards(0);
                x.create(0, 9, 3, 144, -1);
                x.create(0, first, pages, first * 16, 256 + 12);
                x.run(1, 1, 0);
                int[][] system = guardsOf(x, 0);
                int[][] enclave = guardsOf(x, 1);
                for (int address = 0; address < 256; address++) {
                    boolean its = address >= first * 16 && address < (first + pages) * 16;
                    boolean others = address < 16 || address >= 144 && address < 192;
                    boolean shared = address >= 192 && address < 208;
                    due.is("the system loads " + address, x.load(0, address), its || others ? EnclaveGuards.FAULT : 0);
                    due.is("the system at " + address, opens(system, address, 7), !its && !others);
                    due.is("the enclave at " + address, opens(enclave, address, 3), its || shared);
                    due.is("the enclave fetches at " + address, opens(enclave, address, 4), its);
                }
            }
        }
    }

    private static void aSharedPageThatAnotherTakes() {
        EnclaveGuards x = new EnclaveGuards(0);
        Words.put(x, 32, Words.load(2, 0, 200), Words.load(2, 0, 200), Words.load(2, 0, 200));
        x.create(0, 2, 1, 32, 200);
        x.run(0, 0, 0);
        due.is("it loads", x.step(0, 1), 1);
        due.is("another takes the page", x.create(1, 12, 1, 192, -1), 1);
        isGuard(x, 0, 9, 2, 3, 200);
        x.destroy(1, 1);
        due.is("given back, it loads again", x.step(0, 1), 1);
        due.is("state(0)", x.state(0), 2);
        x.create(1, 12, 1, 192, -1);
        due.is("taken again, it faults", x.step(0, 5), 1);
        due.is("released(0)", x.released(0), 2);
    }
}
