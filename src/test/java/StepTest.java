/** Promise 9: step, with every word that an enclave can do. */
public final class StepTest {
    private static final int KEY = 4711;
    private static final int ARGUMENT = 1000;
    private static final Due due = new Due();

    public static void main(String[] args) {
        sums();
        idleBitsDoNotMatter();
        loadsAndStores();
        jumps();
        proofAndSecret();
        exitAndYield();
        wordsThatAreNone();
        fetchFaults();
        loadFaults();
        storeFaults();
        sharedIsNotFetched();
        aFaultChangesNothingElse();
        counts();
        refusals();
        aProgramThatChangesItself();
        sharedBetweenProcessors();
        due.finish();
    }

    /** An enclave of pages 2 and 3 with these words from 32 on, sharing page 8, that has run on processor 0. */
    private static EnclaveGuards ran(int... words) {
        EnclaveGuards x = new EnclaveGuards(KEY);
        Words.put(x, 32, words);
        x.create(0, 2, 2, 32, 256 + 8);
        x.run(0, 0, ARGUMENT);
        x.step(0, 100);
        return x;
    }

    private static void releases(String what, long want, int... words) {
        EnclaveGuards x = ran(words);
        due.is(what + ": state", x.state(0), 4);
        due.is(what + ": released", x.released(0), want);
    }

    private static void faults(String what, int fault, int... words) {
        EnclaveGuards x = ran(words);
        due.is(what + ": state", x.state(0), 5);
        due.is(what + ": fault", x.released(0), fault);
        due.is(what + ": running(0)", x.running(0), -1);
        due.is(what + ": guard(0, 10, 1)", x.guard(0, 10, 1), 7);
        due.is(what + ": guard(0, 2, 1)", x.guard(0, 2, 1), 0);
    }

    private static void sums() {
        releases("ra = rb + i", 1005, Words.set(2, 1, 5), Words.exit(2));
        releases("ra = rb + a negative i", 997, Words.set(2, 1, -3), Words.exit(2));
        releases("the least i", -32768, Words.set(2, 0, -32768), Words.exit(2));
        releases("the greatest i", 32767, Words.set(2, 0, 32767), Words.exit(2));
        releases("ra = ra + rb", 1006, Words.set(2, 0, 6), Words.add(2, 1), Words.exit(2));
        releases("ra = ra + ra", 2000, Words.add(1, 1), Words.exit(1));
        releases("ra = ra ^ rb", 1000 ^ -7, Words.set(2, 0, -7), Words.xor(2, 1), Words.exit(2));
        releases("ra = ra ^ ra", 0, Words.xor(1, 1), Words.exit(1));
        releases("sums wrap", Integer.MIN_VALUE, Words.load(2, 0, 35), Words.set(2, 2, 1), Words.exit(2), Integer.MAX_VALUE);
        releases("sums wrap", -2, Words.load(2, 0, 35), Words.add(2, 2), Words.exit(2), Integer.MAX_VALUE);
        for (int k = 0; k < 8; k++) {
            releases("register " + k, 60 + k, Words.set(k, k == 1 ? 0 : k, 60 + k), Words.exit(k));
        }
    }

    private static void idleBitsDoNotMatter() {
        int idle = 1 << 7 | 31 << 11;
        releases("idle bits", 1005, Words.set(2, 1, 5) | idle, Words.exit(2) | idle | -65536);
    }

    private static void loadsAndStores() {
        releases("a load of its own", 77, Words.load(2, 0, 40), Words.exit(2), 0, 0, 0, 0, 0, 0, 77);
        releases("a load by rb", 77, Words.load(2, 1, 40 - ARGUMENT), Words.exit(2), 0, 0, 0, 0, 0, 0, 77);
        releases("a load over its base", 77, Words.load(1, 1, 40 - ARGUMENT), Words.exit(1), 0, 0, 0, 0, 0, 0, 77);
        releases("a store to its own", 1000, Words.store(1, 0, 63), Words.load(2, 0, 63), Words.exit(2));
        releases("a load of a shared word", 0, Words.load(1, 0, 128), Words.exit(1));
        EnclaveGuards x = ran(Words.store(1, 0, 143), Words.exit(0));
        due.is("a store to a shared word: load(1, 143)", x.load(1, 143), 1000);
        due.is("a store to a shared word: load(1, 142)", x.load(1, 142), 0);
    }

    private static void jumps() {
        releases("if 0, taken", 1, Words.ifZero(0, 1), Words.exit(0), Words.set(2, 0, 1), Words.exit(2));
        releases("if 0, not taken", 0, Words.ifZero(1, 1), Words.exit(0), Words.set(2, 0, 1), Words.exit(2));
        releases("if 0, backward", 3, Words.jump(7, 0, 36), 0, Words.set(2, 0, 3), Words.exit(2), Words.ifZero(0, -3));
        releases("if 0, a jump of none", 1000, Words.ifZero(0, 0), Words.exit(1));
        releases("a jump keeps where it was", 33, Words.jump(7, 0, 40), 0, 0, 0, 0, 0, 0, 0, Words.exit(7));
        releases("a jump by rb", 33, Words.jump(7, 1, 40 - ARGUMENT), 0, 0, 0, 0, 0, 0, 0, Words.exit(7));
        releases("a jump by the rb of before", 33, Words.jump(1, 1, 40 - ARGUMENT), 0, 0, 0, 0, 0, 0, 0, Words.exit(1));
        releases("a jump into the second page", 33, Words.jump(7, 0, 48), 0, 0, 0, 0, 0, 0, 0, 0, 0, 0, 0, 0, 0, 0, 0,
            Words.exit(7));
    }

    private static void proofAndSecret() {
        int[] proving = {Words.proof(2, 1), Words.exit(2)};
        releases("PROOF", Words.proofOf(KEY, Words.measure(2, 0, proving), ARGUMENT), proving);
        int[] provingSelf = {Words.proof(1, 1), Words.exit(1)};
        releases("PROOF over its data", Words.proofOf(KEY, Words.measure(2, 0, provingSelf), ARGUMENT), provingSelf);
        int[] secret = {Words.secret(5), Words.exit(5)};
        releases("SECRET", Words.secretOf(KEY, Words.measure(2, 0, secret)), secret);
        int[] changed = {Words.store(1, 0, 50), Words.secret(5), Words.exit(5)};
        releases("SECRET by the words when it was made", Words.secretOf(KEY, Words.measure(2, 0, changed)), changed);
    }

    private static void exitAndYield() {
        EnclaveGuards x = ran(Words.exit(1));
        due.is("exit: state", x.state(0), 4);
        due.is("exit: running", x.running(0), -1);
        due.is("exit: guard(0, 10, 1)", x.guard(0, 10, 1), 7);
        due.is("exit: guard(0, 2, 1)", x.guard(0, 2, 1), 0);
        due.is("exit: guard(0, 9, 0)", x.guard(0, 9, 0), 0);
        EnclaveGuards y = ran(Words.yield(), Words.exit(1));
        due.is("yield: state", y.state(0), 3);
        due.is("yield: running", y.running(0), -1);
        due.is("yield: released", y.released(0), EnclaveGuards.NONE);
        due.is("yield: guard(0, 2, 1)", y.guard(0, 2, 1), 0);
        due.is("yield: it goes on behind it", y.run(0, 0, 3), 0);
        due.is("yield: step", y.step(0, 7), 1);
        due.is("yield: released in the end", y.released(0), ARGUMENT);
    }

    private static void wordsThatAreNone() {
        for (int op = 11; op < 16; op++) {
            faults("op " + op, 4, Words.word(op, 1, 1, 1));
        }
        faults("all ones", 4, -1);
    }

    private static void fetchFaults() {
        int[] closed = {-1, 0, 15, 16, 31, 64, 128, 200, 255, 256, 32767, -32768};
        for (int target : closed) {
            faults("a jump to " + target, 1, Words.jump(7, 0, target));
        }
        int[] words = new int[32];
        for (int k = 0; k < 32; k++) {
            words[k] = Words.set(2, 2, 1);
        }
        EnclaveGuards x = ran(words);
        due.is("off its last word: state", x.state(0), 5);
        due.is("off its last word: fault", x.released(0), 1);
        EnclaveGuards y = new EnclaveGuards(0);
        Words.put(y, 255, Words.set(2, 2, 1));
        y.create(0, 15, 1, 255, -1);
        y.run(0, 0, 0);
        due.is("off the last word of all: step", y.step(0, 100), 2);
        due.is("off the last word of all: fault", y.released(0), 1);
    }

    private static void loadFaults() {
        int[] closed = {-1, 0, 15, 16, 31, 64, 127, 144, 255, 256, 300, 32767, -32768};
        for (int address : closed) {
            faults("a load at " + address, 2, Words.load(2, 0, address));
        }
        faults("a load that wraps", 2, Words.load(2, 0, 35), Words.load(2, 2, 1), Words.exit(2), Integer.MAX_VALUE);
    }

    private static void storeFaults() {
        int[] closed = {-1, 0, 15, 16, 31, 64, 127, 144, 255, 256, 300, 32767, -32768};
        for (int address : closed) {
            faults("a store at " + address, 3, Words.store(1, 0, address));
        }
        EnclaveGuards x = ran(Words.store(1, 0, 127));
        due.is("load(0, 127)", x.load(0, 127), 0);
    }

    private static void sharedIsNotFetched() {
        EnclaveGuards x = new EnclaveGuards(0);
        Words.put(x, 32, Words.load(2, 0, 200), Words.jump(7, 0, 200));
        Words.put(x, 200, Words.exit(2));
        x.create(0, 2, 1, 32, 200);
        x.run(0, 0, 0);
        due.is("step(0, 100)", x.step(0, 100), 3);
        due.is("released(0)", x.released(0), 1);
    }

    private static void aFaultChangesNothingElse() {
        EnclaveGuards x = ran(Words.set(2, 0, 5), Words.load(2, 0, 16));
        due.is("denied()", x.denied(), 0);
        due.is("measurement(0)", x.measurement(0), Words.measure(2, 0, Words.set(2, 0, 5), Words.load(2, 0, 16)));
        due.is("owner(2)", x.owner(2), 2);
        due.is("load(0, 32)", x.load(0, 32), EnclaveGuards.FAULT);
    }

    private static void counts() {
        EnclaveGuards x = new EnclaveGuards(0);
        Words.put(x, 32, Words.ifZero(0, -1));
        Words.put(x, 48, Words.set(2, 2, 1), Words.set(2, 2, 1), Words.exit(2));
        x.create(0, 2, 1, 32, -1);
        x.create(0, 3, 1, 48, -1);
        x.run(0, 0, 0);
        x.run(1, 1, 0);
        due.is("step(0, 1)", x.step(0, 1), 1);
        due.is("step(0, 99)", x.step(0, 99), 99);
        due.is("step(0, 100)", x.step(0, 100), 100);
        due.is("state(0)", x.state(0), 2);
        due.is("step(1, 2)", x.step(1, 2), 2);
        due.is("state(1)", x.state(1), 2);
        due.is("step(1, 100), the one that ended it counted", x.step(1, 100), 1);
        due.is("released(1)", x.released(1), 2);
        due.is("step(1, 1) of the system", x.step(1, 1), -1);
    }

    private static void refusals() {
        EnclaveGuards x = new EnclaveGuards(0);
        Words.put(x, 32, Words.set(2, 2, 1), Words.exit(2));
        x.create(0, 2, 1, 32, -1);
        due.is("step(0, 1) of the system", x.step(0, 1), -1);
        x.run(0, 0, 0);
        int[] wrong = {0, -1, 101, Integer.MIN_VALUE, Integer.MAX_VALUE};
        for (int n : wrong) {
            due.is("step(0, " + n + ")", x.step(0, n), -1);
        }
        for (int p : Words.WRONG_NUMBERS) {
            due.is("step(" + p + ", 1)", x.step(p, 1), -1);
        }
        due.is("step(2, 1)", x.step(2, 1), -1);
        due.is("step(1, 1)", x.step(1, 1), -1);
        due.is("state(0)", x.state(0), 2);
        due.is("step(0, 100)", x.step(0, 100), 2);
        due.is("released(0)", x.released(0), 1);
    }

    private static void aProgramThatChangesItself() {
        releases("a word that it wrote", 1000, Words.load(2, 0, 40), Words.store(2, 0, 34), 15, 0, 0, 0, 0, 0, Words.exit(1));
    }

    private static void sharedBetweenProcessors() {
        EnclaveGuards x = new EnclaveGuards(0);
        Words.put(x, 32, Words.store(1, 0, 130), Words.exit(0));
        Words.put(x, 48, Words.load(2, 0, 130), Words.exit(2));
        x.create(0, 2, 1, 32, 130);
        x.create(0, 3, 1, 48, 256 + 8);
        x.run(0, 0, 31337);
        x.run(1, 1, 0);
        x.step(0, 1);
        x.step(1, 1);
        x.interrupt(0);
        due.is("load(0, 130)", x.load(0, 130), 31337);
        x.store(0, 130, 0);
        x.step(1, 1);
        due.is("released(1)", x.released(1), 31337);
    }
}
