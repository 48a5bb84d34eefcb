/**
 * Terms: MIX, the MEASUREMENT, the PROOF and the SECRET. The numbers written out here were worked out elsewhere, with
 * numbers that do not wrap, so that a fault in both the program and Words would be seen too.
 */
public final class MixTest {
    private static final int MIN = Integer.MIN_VALUE;
    private static final int MAX = Integer.MAX_VALUE;
    private static final Due due = new Due();

    public static void main(String[] args) {
        mixWraps();
        pagesAndEntry();
        eachWordFromTheFirstOn();
        wordsThatAreNotItsOwn();
        takenWhenMade();
        proofOfKeyMeasurementAndInt();
        secretOfKeyAndMeasurement();
        due.finish();
    }

    private static void mixWraps() {
        due.sentence("MIX(a, b), in ints that wrap: t is (31 * a ^ b) * 668265263, and MIX(a, b) is t ^ (t >>> 15).");
        int[][] proofs = {
            {0, 0, 0, 852827694}, {0, 0, MIN, -1294721490}, {0, 0, MAX, 626381798}, {0, 0, -1, -1521167386},
            {0, -1, 0, -2060160598}, {0, MIN, MIN, -1205531700}, {0, MAX, MAX, -666556008}, {1, 0, 1, -583458361},
            {1, -1, MIN, 563677180}, {1, MIN, 0, 173838940}, {-1, 0, 0, 476752684}, {-1, -1, -1, -588529344},
            {-1, MIN, MAX, 913435707}, {-1, MAX, MIN, 1978759134}, {MIN, 0, 0, -1941822464}, {MIN, -1, 1, -349053875},
            {MIN, MIN, MIN, 116666734}, {MIN, MAX, MAX, -1887311150}, {MAX, 0, MAX, -648956310},
            {MAX, -1, -1, -437636795}, {MAX, MIN, 1, 1370982326}, {MAX, MAX, MAX, 1620851627},
            {4711, 0, 0, -40301828}, {4711, MAX, MIN, 158088254},
        };
        for (int[] one : proofs) {
            EnclaveGuards x = new EnclaveGuards(one[0]);
            String name = "key " + one[0] + ", verify(" + one[1] + ", " + one[2] + ", ";
            due.is(name + one[3] + ")", x.verify(one[1], one[2], one[3]), true);
            due.is(name + (one[3] + 1) + ")", x.verify(one[1], one[2], one[3] + 1), false);
            due.is(name + (one[3] - 1) + ")", x.verify(one[1], one[2], one[3] - 1), false);
        }
    }

    private static long measured(int first, int pages, int offset, int... words) {
        EnclaveGuards x = new EnclaveGuards(0);
        Words.put(x, first * 16, words);
        due.is("create", x.create(0, first, pages, first * 16 + offset, -1), 0);
        return x.measurement(0);
    }

    private static void pagesAndEntry() {
        due.sentence("m is MIX(the number of pages, the entry less the address of the first word)");
        int[] atFirst = {-954859082, 2015407858, -952832176, 61685627, -1386577348, -1866510840, -732057560, 721352302};
        int[] atLast = {-1651420802, 766072109, -191695116, -545236588, -105642884, -1563320933, 935996792, 1645137283};
        for (int pages = 1; pages <= 8; pages++) {
            int last = pages * 16 - 1;
            due.is(pages + " pages, the first entry", measured(1, pages, 0), atFirst[pages - 1]);
            due.is(pages + " pages, the last entry", measured(1, pages, last), atLast[pages - 1]);
            due.is(pages + " pages, elsewhere", measured(16 - pages, pages, 0), atFirst[pages - 1]);
            due.is(pages + " pages, elsewhere, the last entry", measured(16 - pages, pages, last), atLast[pages - 1]);
        }
    }

    private static void eachWordFromTheFirstOn() {
        due.sentence("then for each word of its pages, from the first on, m becomes MIX(m, the word)");
        due.is("words at the edges of ints", measured(2, 1, 0, MIN, MAX, -1), -1088164651);
        due.is("the last word", measured(2, 1, 15, 0, 0, 0, 0, 0, 0, 0, 0, 0, 0, 0, 0, 0, 0, 0, MIN), 495997310);
        int[] eightPages = new int[128];
        eightPages[0] = 1;
        eightPages[127] = -1;
        due.is("the first and the last of 128", measured(8, 8, 127, eightPages), -1110831752);
        due.holds("the order counts", measured(2, 1, 0, 1, 2) != measured(2, 1, 0, 2, 1));
        for (int pages = 1; pages <= 8; pages++) {
            for (int k = 0; k < pages * 16; k++) {
                int[] words = new int[pages * 16];
                words[k] = 1 << k % 32;
                due.is("word " + k + " of " + pages + " pages", measured(3, pages, 0, words),
                    Words.measure(pages, 0, words));
            }
        }
    }

    private static void wordsThatAreNotItsOwn() {
        due.sentence("for each word of its pages");
        EnclaveGuards x = new EnclaveGuards(0);
        Words.put(x, 31, 5);
        Words.put(x, 48, 6);
        Words.put(x, 200, 7);
        x.create(0, 2, 1, 32, 200);
        due.is("measurement(0): the words beside it and what it shares do not count", x.measurement(0), -954859082);
        EnclaveGuards y = new EnclaveGuards(-1);
        y.create(0, 5, 1, 80, -1);
        y.create(1, 7, 1, 112, 256 + 9);
        due.is("measurement(1): key, number and processor do not count", y.measurement(1), -954859082);
    }

    private static void takenWhenMade() {
        due.sentence("The MEASUREMENT, taken when the enclave is made");
        EnclaveGuards x = new EnclaveGuards(Scene.KEY);
        int[] words = {Words.store(1, 0, 47), Words.store(1, 0, 32), Words.secret(2), Words.yield(), Words.exit(2)};
        Words.put(x, 32, words);
        x.create(0, 2, 1, 32, -1);
        long m = Words.measure(1, 0, words);
        due.is("measurement(0)", x.measurement(0), m);
        x.run(0, 0, 9);
        x.step(0, 2);
        due.is("measurement(0) behind stores to its words", x.measurement(0), m);
        x.step(0, 2);
        due.is("measurement(0) when it is STOPPED", x.measurement(0), m);
        x.run(0, 0, 9);
        x.step(0, 1);
        due.is("measurement(0) when it is EXITED", x.measurement(0), m);
        due.is("released(0): the SECRET of that measurement", x.released(0), Words.secretOf(Scene.KEY, (int) m));
        x.destroy(0, 0);
        x.create(0, 2, 1, 32, -1);
        due.is("measurement(0), made anew of words that are 0", x.measurement(0), -954859082);
    }

    private static void proofOfKeyMeasurementAndInt() {
        due.sentence("The PROOF of a measurement m and an int d is MIX(MIX(MIX(KEY, 3), m), d).");
        int[] ints = {0, 1, -1, 55, MIN, MAX};
        for (int key : ints) {
            for (int d : ints) {
                EnclaveGuards x = new EnclaveGuards(key);
                int[] words = {Words.proof(2, 1), Words.exit(2)};
                Words.put(x, 32, words);
                x.create(0, 2, 1, 32, -1);
                x.run(0, 0, d);
                x.step(0, 2);
                int m = Words.measure(1, 0, words);
                int proof = Words.proofOf(key, m, d);
                due.is("key " + key + ", the PROOF that an enclave makes of " + d, x.released(0), proof);
                due.is("key " + key + ", verify of it", x.verify(m, d, proof), true);
                due.is("key " + key + ", verify with another int", x.verify(m, d + 1, proof), false);
                due.is("key " + key + ", verify with another measurement", x.verify(m + 1, d, proof), false);
            }
        }
    }

    private static void secretOfKeyAndMeasurement() {
        due.sentence("The SECRET of a measurement m is MIX(MIX(KEY, 7), m).");
        int[] keys = {0, 1, -1, MIN, MAX, 4711};
        int[] secrets = {-1035728131, -468178952, -1238604949, 2115531335, 2090792461, 35382618};
        for (int k = 0; k < keys.length; k++) {
            EnclaveGuards x = new EnclaveGuards(keys[k]);
            Words.put(x, 32, Words.secret(2), Words.exit(2));
            x.create(0, 2, 1, 32, -1);
            x.run(0, 0, 0);
            x.step(0, 2);
            due.is("key " + keys[k] + ", the SECRET", x.released(0), secrets[k]);
        }
    }
}
