/** Promises 14 and 15: measurement and verify, with the PROOF that an enclave makes. */
public final class MeasurementTest {
    private static final Due due = new Due();

    public static void main(String[] args) {
        knownValues();
        whatItDependsOn();
        whatItDoesNotDependOn();
        takenWhenMade();
        verifying();
        aProofOfAnEnclaveIsVerified();
        due.finish();
    }

    /** Values that were worked out elsewhere, so that a fault in Words would be seen too. */
    private static void knownValues() {
        EnclaveGuards x = new EnclaveGuards(12345);
        Words.put(x, 32, 327969, 2621492, 802, 2687013, 10, 584, 89, 32, 100);
        x.create(0, 2, 1, 32, -1);
        due.is("measurement(0)", x.measurement(0), -890109527L);
        EnclaveGuards y = new EnclaveGuards(99);
        due.is("verify of a known proof", y.verify(-482109172, 55, 30298083), true);
        due.is("verify of another", y.verify(-482109172, 55, 30298084), false);
    }

    private static long measured(int key, int first, int pages, int offset, int... words) {
        EnclaveGuards x = new EnclaveGuards(key);
        Words.put(x, first * 16, words);
        due.is("create", x.create(0, first, pages, first * 16 + offset, -1), 0);
        return x.measurement(0);
    }

    private static void whatItDependsOn() {
        for (int pages = 1; pages <= 8; pages++) {
            int[] words = new int[pages * 16];
            for (int k = 0; k < words.length; k++) {
                words[k] = 7 * k - 50;
            }
            due.is(pages + " pages", measured(0, 2, pages, 0, words), Words.measure(pages, 0, words));
            int last = pages * 16 - 1;
            due.is(pages + " pages, last entry", measured(0, 2, pages, last, words), Words.measure(pages, last, words));
            words[last]++;
            due.is(pages + " pages, last word", measured(0, 2, pages, 0, words), Words.measure(pages, 0, words));
        }
        due.holds("the pages count", measured(0, 2, 1, 0) != measured(0, 2, 2, 0));
        due.holds("the entry counts", measured(0, 2, 1, 0) != measured(0, 2, 1, 1));
        due.holds("the order counts", measured(0, 2, 1, 0, 1, 2) != measured(0, 2, 1, 0, 2, 1));
        int[] edges = {Integer.MIN_VALUE, Integer.MAX_VALUE, -1, 0};
        due.is("words at the edges of ints", measured(0, 2, 1, 3, edges), Words.measure(1, 3, edges));
    }

    private static void whatItDoesNotDependOn() {
        long here = measured(1, 2, 2, 5, 10, 20, 30);
        due.is("the key does not count", measured(2, 2, 2, 5, 10, 20, 30), here);
        due.is("the place does not count", measured(1, 9, 2, 5, 10, 20, 30), here);
        EnclaveGuards x = new EnclaveGuards(1);
        x.create(0, 5, 1, 80, -1);
        Words.put(x, 32, 10, 20, 30);
        x.create(1, 2, 2, 37, 256 + 9);
        due.is("number, processor and shared do not count", x.measurement(1), here);
    }

    private static void takenWhenMade() {
        EnclaveGuards x = new EnclaveGuards(0);
        Words.put(x, 32, Words.store(1, 0, 40), Words.exit(0));
        x.create(0, 2, 1, 32, -1);
        long m = x.measurement(0);
        x.run(0, 0, 5);
        due.is("measurement(0) while it runs", x.measurement(0), m);
        x.step(0, 100);
        due.is("measurement(0) after a store and exit", x.measurement(0), m);
        due.is("measurement(1)", x.measurement(1), EnclaveGuards.NONE);
        x.destroy(0, 0);
        due.is("measurement(0) after destroy", x.measurement(0), EnclaveGuards.NONE);
    }

    private static void verifying() {
        int[] ints = {0, 1, -1, 55, Integer.MIN_VALUE, Integer.MAX_VALUE};
        EnclaveGuards x = new EnclaveGuards(-3);
        for (int m : ints) {
            for (int d : ints) {
                int proof = Words.proofOf(-3, m, d);
                String name = "verify(" + m + ", " + d + ", ";
                due.is(name + "its proof)", x.verify(m, d, proof), true);
                due.is(name + "a bit off)", x.verify(m, d, proof ^ 1), false);
                due.is(name + "another bit off)", x.verify(m, d, proof ^ Integer.MIN_VALUE), false);
                due.is(name + "by another key)", x.verify(m, d, Words.proofOf(-4, m, d)), false);
            }
        }
        due.is("the two do not change places", x.verify(1, 55, Words.proofOf(-3, 55, 1)), false);
        due.is("a secret is no proof", x.verify(1, 55, Words.secretOf(-3, 1)), false);
        x.create(0, 2, 1, 32, -1);
        x.run(0, 0, 0);
        x.create(1, 3, 1, 48, -1);
        x.run(1, 1, 0);
        due.is("verify while both are busy", x.verify(1, 2, Words.proofOf(-3, 1, 2)), true);
    }

    private static void aProofOfAnEnclaveIsVerified() {
        EnclaveGuards x = new EnclaveGuards(808);
        Words.put(x, 32, Words.proof(2, 1), Words.exit(2));
        x.create(0, 2, 1, 32, -1);
        x.run(0, 0, 606);
        x.step(0, 2);
        int m = (int) x.measurement(0);
        int proof = (int) x.released(0);
        due.is("verify", x.verify(m, 606, proof), true);
        due.is("verify of other data", x.verify(m, 607, proof), false);
        due.is("verify of another measurement", x.verify(m + 1, 606, proof), false);
    }
}
