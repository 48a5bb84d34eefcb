/** Promise 15: verify. What the PROOF is stands under Terms, and in MixTest. */
public final class VerifyTest {
    private static final int KEY = -3;
    private static final Due due = new Due();

    public static void main(String[] args) {
        isTheProof();
        isNotTheProof();
        atAnyTime();
        due.finish();
    }

    private static void isTheProof() {
        due.sentence("Whether proof is the PROOF of a measurement and an int.");
        EnclaveGuards known = new EnclaveGuards(99);
        due.is("verify of a known proof", known.verify(-482109172, 55, 30298083), true);
        due.is("verify of the int behind", known.verify(-482109172, 55, 30298084), false);
        due.is("verify of the int before", known.verify(-482109172, 55, 30298082), false);
        int[] ints = {Integer.MIN_VALUE, -1, 0, 1, 55, Integer.MAX_VALUE};
        EnclaveGuards x = new EnclaveGuards(KEY);
        for (int m : ints) {
            for (int d : ints) {
                due.is("verify(" + m + ", " + d + ", its proof)", x.verify(m, d, Words.proofOf(KEY, m, d)), true);
            }
        }
    }

    private static void isNotTheProof() {
        due.sentence("Whether proof is the PROOF of a measurement and an int.");
        EnclaveGuards x = new EnclaveGuards(KEY);
        int proof = Words.proofOf(KEY, 1, 55);
        for (int bit = 0; bit < 32; bit++) {
            due.is("verify, bit " + bit + " of the proof is another", x.verify(1, 55, proof ^ 1 << bit), false);
            due.is("verify, bit " + bit + " of the measurement", x.verify(1 ^ 1 << bit, 55, proof), false);
            due.is("verify, bit " + bit + " of the int", x.verify(1, 55 ^ 1 << bit, proof), false);
        }
        due.is("verify by another key", x.verify(1, 55, Words.proofOf(KEY - 1, 1, 55)), false);
        due.is("verify, the two have changed places", x.verify(55, 1, proof), false);
        due.is("verify of a secret", x.verify(1, 55, Words.secretOf(KEY, 1)), false);
    }

    private static void atAnyTime() {
        due.sentence("Whether proof is the PROOF of a measurement and an int.");
        EnclaveGuards x = new EnclaveGuards(Scene.KEY);
        int proof = Words.proofOf(Scene.KEY, 8, 9);
        due.is("verify of a new object, where no enclave is", x.verify(8, 9, proof), true);
        Scene.bothBusy(x);
        due.is("verify when both processors are busy", x.verify(8, 9, proof), true);
        due.is("verify of another, when both are busy", x.verify(8, 9, proof + 1), false);
    }
}
