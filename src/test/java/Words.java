/** The words that an enclave's program is made of, and the document's sums over ints, for the tests. */
final class Words {
    private Words() {
    }

    static int word(int op, int a, int b, int i) {
        return op | a << 4 | b << 8 | i << 16;
    }

    static int exit(int a) {
        return word(0, a, 0, 0);
    }

    static int set(int a, int b, int i) {
        return word(1, a, b, i);
    }

    static int add(int a, int b) {
        return word(2, a, b, 0);
    }

    static int xor(int a, int b) {
        return word(3, a, b, 0);
    }

    static int load(int a, int b, int i) {
        return word(4, a, b, i);
    }

    static int store(int a, int b, int i) {
        return word(5, a, b, i);
    }

    static int ifZero(int a, int i) {
        return word(6, a, 0, i);
    }

    static int jump(int a, int b, int i) {
        return word(7, a, b, i);
    }

    static int proof(int a, int b) {
        return word(8, a, b, 0);
    }

    static int secret(int a) {
        return word(9, a, 0, 0);
    }

    static int yield() {
        return word(10, 0, 0, 0);
    }

    /** Stores the words from the address on, by the system on processor 0. */
    static void put(EnclaveGuards x, int address, int... words) {
        for (int k = 0; k < words.length; k++) {
            if (x.store(0, address + k, words[k]) != 0) {
                throw new IllegalStateException("the test could not store at " + (address + k));
            }
        }
    }

    static int mix(int a, int b) {
        int t = ((31 * a) ^ b) * 668265263;
        return t ^ (t >>> 15);
    }

    static int measure(int pages, int entryOffset, int... words) {
        int m = mix(pages, entryOffset);
        for (int k = 0; k < pages * 16; k++) {
            m = mix(m, k < words.length ? words[k] : 0);
        }
        return m;
    }

    static int proofOf(int key, int m, int d) {
        return mix(mix(mix(key, 3), m), d);
    }

    static int secretOf(int key, int m) {
        return mix(mix(key, 7), m);
    }
}
