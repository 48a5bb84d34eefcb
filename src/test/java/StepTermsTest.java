/** Terms: a STEP, its words 0 to 15 and its faults 1 to 4. */
public final class StepTermsTest {
    private static final int MIN = Integer.MIN_VALUE;
    private static final int MAX = Integer.MAX_VALUE;
    private static final int FIRST = 32;
    private static final int LAST = 63;
    private static final int SHARED_FIRST = 128;
    private static final int SHARED_LAST = 143;
    /** What the enclave of these tests may not touch, beside what it may: the words on both sides of each edge. */
    private static final int[] CLOSED = {-32768, -1, 0, 15, 16, FIRST - 1, LAST + 1, SHARED_FIRST - 1, SHARED_LAST + 1,
        255, 256, 257, 32767};
    private static final int[] OPEN = {FIRST, FIRST + 1, LAST - 1, LAST};
    private static final int[] SHARED = {SHARED_FIRST, SHARED_FIRST + 1, SHARED_LAST - 1, SHARED_LAST};
    private static final Due due = new Due();

    public static void main(String[] args) {
        fetching();
        fieldOp();
        fieldA();
        fieldB();
        fieldI();
        here();
        pcBecomesTheNext();
        sumsWrap();
        addressesThatWrap();
        word0();
        word1();
        word2();
        word3();
        word4();
        word5();
        word6();
        word7();
        words8And9();
        word10();
        words11To15();
        faultChangesNothingElse();
        processorRunsTheSystem();
        due.finish();
    }

    /** An enclave of pages 2 and 3 with these words from 32 on, sharing page 8, that has begun on processor 0. */
    private static EnclaveGuards begun(int argument, int... words) {
        EnclaveGuards x = new EnclaveGuards(Scene.KEY);
        Words.put(x, FIRST, words);
        x.create(0, 2, 2, FIRST, 256 + 8);
        x.run(0, 0, argument);
        return x;
    }

    private static void releases(String what, long want, int argument, int... words) {
        EnclaveGuards x = begun(argument, words);
        x.step(0, 100);
        due.is(what + ": state", x.state(0), Scene.EXITED);
        due.is(what + ": released", x.released(0), want);
    }

    /** The fault comes in the step of this number, and not in one before. */
    private static void faults(String what, int fault, int steps, int argument, int... words) {
        EnclaveGuards x = begun(argument, words);
        for (int made = 1; made < steps; made++) {
            due.is(what + ": a step before", x.step(0, 1), 1);
            due.is(what + ": state before", x.state(0), Scene.RUNNING);
        }
        due.is(what + ": the step", x.step(0, 1), 1);
        due.is(what + ": state", x.state(0), Scene.FAULTED);
        due.is(what + ": fault", x.released(0), fault);
        due.is(what + ": running(0)", x.running(0), -1);
    }

    private static void fetching() {
        due.sentence("fetching at PC must be allowed, else fault 1");
        for (int target : CLOSED) {
            faults("a jump to " + target, 1, 2, 0, Words.jump(7, 0, target));
        }
        for (int target : SHARED) {
            faults("a jump to what it shares, " + target, 1, 2, 0, Words.jump(7, 0, target));
        }
        for (int target : OPEN) {
            EnclaveGuards x = begun(0, Words.jump(7, 0, target));
            due.is("a jump to " + target, x.step(0, 2), 2);
            due.holds("no fault at " + target, x.state(0) != Scene.FAULTED);
        }
        int[] far = {MIN, MAX, -256, 512, 65536 + FIRST};
        for (int target : far) {
            faults("a jump to " + target, 1, 2, target, Words.jump(7, 1, 0));
        }
        int[] full = new int[32];
        for (int k = 0; k < 32; k++) {
            full[k] = Words.set(2, 2, 1);
        }
        faults("off its last word", 1, 33, 0, full);
        EnclaveGuards x = Scene.ready(15, Words.jump(7, 0, 255));
        x.run(0, 0, 0);
        due.is("word 255 is fetched: step(0, 2)", x.step(0, 2), 2);
        due.is("word 255 is fetched: state(0)", x.state(0), Scene.EXITED);
        EnclaveGuards y = new EnclaveGuards(0);
        Words.put(y, 255, Words.set(2, 2, 1));
        y.create(0, 15, 1, 255, -1);
        y.run(0, 0, 0);
        due.is("behind word 255: step(0, 100)", y.step(0, 100), 2);
        due.is("behind word 255: released(0)", y.released(0), 1);
    }

    private static void fieldOp() {
        due.sentence("op = w & 15");
        int[] rest = {0, -16 & 0xffff, 0x7ff0, -16, 0x80, 0xf800};
        for (int bits : rest) {
            for (int op = 0; op < 16; op++) {
                EnclaveGuards x = begun(0, bits | op);
                x.step(0, 1);
                int state = op == 0 ? Scene.EXITED : op == 10 ? Scene.STOPPED : op > 10 ? Scene.FAULTED : -1;
                if (state > 0) {
                    due.is("the state behind the word " + (bits | op), x.state(0), state);
                } else if (op != 4 && op != 5) {
                    due.is("the state behind the word " + (bits | op), x.state(0), Scene.RUNNING);
                }
            }
        }
    }

    private static void fieldA() {
        due.sentence("a = w >> 4 & 7");
        int idle = 1 << 7;
        for (int k = 0; k < 8; k++) {
            for (int other = 0; other < 8; other++) {
                if (other != k) {
                    int start = other == 1 ? 9 : 0;
                    releases("r" + other + " when r" + k + " is set", start, 9, Words.set(k, 1, 5), Words.exit(other));
                }
            }
            releases("r" + k, 14, 9, Words.set(k, 1, 5), Words.exit(k));
            releases("r" + k + ", bit 7 set", 14, 9, Words.set(k, 1, 5) | idle, Words.exit(k) | idle);
        }
    }

    private static void fieldB() {
        due.sentence("b = w >> 8 & 7");
        int idle = 31 << 11;
        for (int k = 0; k < 8; k++) {
            int[] plain = {Words.set(k, 1, 40), Words.set(3, k, 2), Words.exit(3)};
            int[] withIdle = {Words.set(k, 1, 40) | idle, Words.set(3, k, 2) | idle, Words.exit(3) | idle};
            releases("by r" + k, 51, 9, plain);
            releases("by r" + k + ", bits 11 to 15 set", 51, 9, withIdle);
        }
    }

    private static void fieldI() {
        due.sentence("i = w >> 16");
        int[] steps = {-32768, -32767, -2, -1, 0, 1, 2, 32766, 32767};
        for (int i : steps) {
            releases("i = " + i, i, 0, Words.set(2, 0, i), Words.exit(2));
        }
    }

    /** A jump from there to the word 241, which releases where it came from. */
    private static void here() {
        due.sentence("HERE is PC before.");
        int[] places = {240, 242, 254, 255};
        for (int place : places) {
            EnclaveGuards x = new EnclaveGuards(0);
            Words.put(x, 241, Words.exit(7));
            Words.put(x, place, Words.jump(7, 0, 241));
            x.create(0, 15, 1, place, -1);
            x.run(0, 0, 0);
            x.step(0, 2);
            due.is("HERE + 1 of a jump at " + place, x.released(0), place + 1);
        }
    }

    private static void pcBecomesTheNext() {
        due.sentence("PC becomes HERE + 1, if nothing else is said.");
        int[] words = {Words.set(2, 2, 1), Words.add(3, 2), Words.xor(4, 2), Words.load(5, 0, 60), Words.store(5, 0, 60),
            Words.ifZero(1, 1), Words.proof(6, 0), Words.secret(6), Words.yield()};
        for (int word : words) {
            EnclaveGuards x = begun(8, word, Words.exit(1), Words.exit(0));
            x.step(0, 1);
            x.run(0, 0, 99);
            due.is("the step behind the word " + word, x.step(0, 100), 1);
            due.is("released(0) behind the word " + word, x.released(0), 8);
        }
    }

    private static void sumsWrap() {
        due.sentence("All sums wrap.");
        releases("rb + i over the greatest", MIN, MAX, Words.set(2, 1, 1), Words.exit(2));
        releases("rb + i at the greatest", MAX, MAX, Words.set(2, 1, 0), Words.exit(2));
        releases("rb + i up to the greatest", MAX, MAX - 1, Words.set(2, 1, 1), Words.exit(2));
        releases("rb + i, far over", MIN + 32766, MAX, Words.set(2, 1, 32767), Words.exit(2));
        releases("rb + i under the least", MAX, MIN, Words.set(2, 1, -1), Words.exit(2));
        releases("rb + i down to the least", MIN, MIN + 1, Words.set(2, 1, -1), Words.exit(2));
        releases("rb + i, far under", MAX - 32767, MIN, Words.set(2, 1, -32768), Words.exit(2));
        releases("ra + rb over the greatest", -2, MAX, Words.add(1, 1), Words.exit(1));
        releases("ra + rb under the least", 0, MIN, Words.add(1, 1), Words.exit(1));
        releases("ra + rb over by one", MIN, MAX, Words.set(2, 0, 1), Words.add(2, 1), Words.exit(2));
        releases("ra + rb under by one", MAX, MIN, Words.set(2, 0, -1), Words.add(2, 1), Words.exit(2));
        releases("a sum that wraps to 0 is 0", 3, MIN, Words.add(1, 1), Words.ifZero(1, 1), Words.exit(0),
            Words.set(2, 0, 3), Words.exit(2));
    }

    private static void addressesThatWrap() {
        due.sentence("All sums wrap.");
        int[][] wrapping = {{MAX, 1}, {MAX, 32767}, {MIN, -1}, {MIN, -32768}};
        for (int[] one : wrapping) {
            String name = one[0] + " and " + one[1];
            faults("a load at the sum of " + name, 2, 1, one[0], Words.load(2, 1, one[1]));
            faults("a store at the sum of " + name, 3, 1, one[0], Words.store(2, 1, one[1]));
            faults("a jump to the sum of " + name, 1, 2, one[0], Words.jump(2, 1, one[1]));
        }
        int far = FIRST + 3 + 32768;
        releases("a load at a sum back into its words", 70, far, Words.load(2, 1, -32768), Words.exit(2), 0, 70);
        releases("a load at a sum up into its words", 70, FIRST + 3 - 32767, Words.load(2, 1, 32767), Words.exit(2), 0, 70);
    }

    private static void word0() {
        due.sentence("0 EXIT: EXITED, RELEASED is ra");
        int[] ints = {MIN, -1, 0, 1, MAX};
        for (int v : ints) {
            EnclaveGuards x = begun(v, Words.exit(1));
            due.is("the step", x.step(0, 100), 1);
            due.is("state(0)", x.state(0), Scene.EXITED);
            due.is("released(0)", x.released(0), v);
        }
    }

    private static void word1() {
        due.sentence("1 ra = rb + i");
        releases("of two registers", 1005, 1000, Words.set(2, 1, 5), Words.exit(2));
        releases("with an i below 0", 997, 1000, Words.set(2, 1, -3), Words.exit(2));
        releases("of one register", 1005, 1000, Words.set(1, 1, 5), Words.exit(1));
        releases("not of what ra was", 1005, 1000, Words.set(2, 0, 77), Words.set(2, 1, 5), Words.exit(2));
        releases("rb stays", 1000, 1000, Words.set(2, 1, 5), Words.exit(1));
    }

    private static void word2() {
        due.sentence("2 ra = ra + rb");
        releases("of two registers", 1006, 1000, Words.set(2, 0, 6), Words.add(2, 1), Words.exit(2));
        releases("of one register", 2000, 1000, Words.add(1, 1), Words.exit(1));
        releases("i does not count", 2000, 1000, Words.word(2, 1, 1, 5), Words.exit(1));
        releases("rb stays", 1000, 1000, Words.set(2, 0, 6), Words.add(2, 1), Words.exit(1));
    }

    private static void word3() {
        due.sentence("3 ra = ra ^ rb");
        releases("of two registers", 1000 ^ -7, 1000, Words.set(2, 0, -7), Words.xor(2, 1), Words.exit(2));
        releases("of one register", 0, 1000, Words.xor(1, 1), Words.exit(1));
        releases("i does not count", 1000 ^ 12, 1000, Words.set(2, 0, 12), Words.word(3, 2, 1, 5), Words.exit(2));
        releases("rb stays", 1000, 1000, Words.set(2, 0, 12), Words.xor(2, 1), Words.exit(1));
    }

    private static void word4() {
        due.sentence("4 ra = the word at rb + i, loading must be allowed, else fault 2");
        for (int address : CLOSED) {
            faults("a load at " + address, 2, 1, 0, Words.load(2, 0, address));
        }
        for (int address : OPEN) {
            int[] words = new int[32];
            words[address - FIRST] = 98765;
            words[0] = Words.jump(7, 0, 40);
            words[8] = Words.load(2, 0, address);
            words[9] = Words.exit(2);
            releases("a load at " + address, words[address - FIRST], 0, words);
        }
        for (int address : SHARED) {
            EnclaveGuards x = begun(0, Words.load(2, 0, address), Words.exit(2));
            x.store(1, address, -address);
            x.step(0, 2);
            due.is("a load at " + address + ", which it shares", x.released(0), -address);
        }
        releases("a load over its base", 77, 40, Words.load(1, 1, 0), Words.exit(1), 0, 0, 0, 0, 0, 0, 77);
        int[] far = {MIN, MAX, 65536 + FIRST, FIRST - 256, FIRST + 256};
        for (int address : far) {
            faults("a load at " + address, 2, 1, address, Words.load(2, 1, 0));
        }
    }

    private static void word5() {
        due.sentence("5 the word at rb + i becomes ra, storing must be allowed, else fault 3");
        for (int address : CLOSED) {
            faults("a store at " + address, 3, 1, 0, Words.store(1, 0, address));
        }
        for (int address : OPEN) {
            releases("a store at " + address, 1000, 1000, Words.jump(7, 0, 40), 0, 0, 0, 0, 0, 0, 0,
                Words.store(1, 0, address), Words.load(2, 0, address), Words.exit(2));
        }
        for (int address : SHARED) {
            EnclaveGuards x = begun(1000, Words.store(1, 0, address), Words.exit(2));
            x.step(0, 2);
            for (int word = SHARED_FIRST; word <= SHARED_LAST; word++) {
                due.is("load(1, " + word + ") behind a store at " + address, x.load(1, word), word == address ? 1000 : 0);
            }
        }
        releases("ra stays", 1000, 1000, Words.store(1, 0, 50), Words.exit(1));
        releases("a store of its base", 50, 50, Words.store(1, 1, 0), Words.load(2, 0, 50), Words.exit(2));
        releases("a word that it wrote is done", 1000, 1000, Words.load(2, 0, 40), Words.store(2, 0, 34), 15, 0, 0, 0, 0, 0,
            Words.exit(1));
        int[] far = {MIN, MAX, 65536 + FIRST, FIRST - 256, FIRST + 256};
        for (int address : far) {
            faults("a store at " + address, 3, 1, address, Words.store(2, 1, 0));
        }
    }

    private static void word6() {
        due.sentence("6 if ra is 0, PC becomes HERE + 1 + i");
        int[] notZero = {1, -1, MIN, MAX, 256, 65536};
        for (int v : notZero) {
            releases("not taken by " + v, 0, v, Words.ifZero(1, 1), Words.exit(0), Words.set(2, 0, 1), Words.exit(2));
        }
        releases("taken by 0", 1, 0, Words.ifZero(1, 1), Words.exit(0), Words.set(2, 0, 1), Words.exit(2));
        releases("taken, i is 0", 8, 8, Words.ifZero(0, 0), Words.exit(1));
        releases("taken backward", 3, 0, Words.jump(7, 0, 36), 0, Words.set(2, 0, 3), Words.exit(2), Words.ifZero(0, -3));
        releases("b does not count", 1, 0, Words.word(6, 0, 1, 1), Words.exit(0), Words.set(2, 0, 1), Words.exit(2));
        EnclaveGuards x = begun(0, Words.ifZero(0, -1));
        due.is("to itself, again and again", x.step(0, 100), 100);
        due.is("to itself, state(0)", x.state(0), Scene.RUNNING);
        faults("taken to before its first word", 1, 2, 0, Words.ifZero(0, -2));
        faults("taken to behind its last word", 1, 2, 0, Words.ifZero(0, 31));
        EnclaveGuards y = begun(0, Words.ifZero(0, 30));
        y.step(0, 2);
        due.is("taken to its last word", y.state(0), Scene.EXITED);
        faults("taken as far back as can be", 1, 2, 0, Words.ifZero(0, -32768));
        faults("taken as far on as can be", 1, 2, 0, Words.ifZero(0, 32767));
    }

    private static void word7() {
        due.sentence("7 PC becomes rb + i, with the rb of before, and ra = HERE + 1");
        releases("ra is HERE + 1", 33, 0, Words.jump(7, 0, 40), 0, 0, 0, 0, 0, 0, 0, Words.exit(7));
        releases("by rb", 33, 50, Words.jump(7, 1, -10), 0, 0, 0, 0, 0, 0, 0, Words.exit(7));
        releases("by the rb of before", 33, 50, Words.jump(1, 1, -10), 0, 0, 0, 0, 0, 0, 0, Words.exit(1));
        releases("rb stays", 50, 50, Words.jump(7, 1, -10), 0, 0, 0, 0, 0, 0, 0, Words.exit(1));
        releases("a jump back by ra", 61, 0, Words.jump(7, 0, 36), Words.exit(6), 0, 0, Words.set(6, 0, 61),
            Words.jump(5, 7, 0));
        int[] intoTheSecond = new int[32];
        intoTheSecond[0] = Words.jump(7, 0, LAST);
        intoTheSecond[31] = Words.exit(7);
        releases("to its last word", 33, 0, intoTheSecond);
    }

    private static void words8And9() {
        due.sentence("8 ra = the PROOF of its measurement and rb");
        int[] proving = {Words.proof(2, 1), Words.exit(2)};
        int[] ints = {0, -1, MIN, MAX, 606};
        for (int d : ints) {
            releases("PROOF of " + d, Words.proofOf(Scene.KEY, Words.measure(2, 0, proving), d), d, proving);
        }
        int[] provingOver = {Words.proof(1, 1), Words.exit(1)};
        releases("PROOF over rb", Words.proofOf(Scene.KEY, Words.measure(2, 0, provingOver), 5), 5, provingOver);
        int[] changed = {Words.store(1, 0, 50), Words.proof(2, 1), Words.exit(2)};
        releases("PROOF by the words when it was made", Words.proofOf(Scene.KEY, Words.measure(2, 0, changed), 5), 5, changed);
        due.sentence("9 ra = the SECRET of its measurement");
        int[] secret = {Words.secret(5), Words.exit(5)};
        releases("SECRET", Words.secretOf(Scene.KEY, Words.measure(2, 0, secret)), 5, secret);
        int[] withRest = {Words.word(9, 5, 1, -1), Words.exit(5)};
        releases("SECRET, b and i do not count", Words.secretOf(Scene.KEY, Words.measure(2, 0, withRest)), 5, withRest);
    }

    private static void word10() {
        due.sentence("10 YIELD: STOPPED");
        EnclaveGuards x = begun(44, Words.yield(), Words.exit(1));
        due.is("the step", x.step(0, 100), 1);
        due.is("state(0)", x.state(0), Scene.STOPPED);
        due.is("released(0)", x.released(0), EnclaveGuards.NONE);
        x.run(1, 0, 3);
        due.is("it goes on behind it: step(1, 100)", x.step(1, 100), 1);
        due.is("it goes on behind it: released(0)", x.released(0), 44);
        int[] lastYields = new int[32];
        lastYields[0] = Words.jump(7, 0, LAST);
        lastYields[31] = Words.yield();
        EnclaveGuards y = begun(0, lastYields);
        y.step(0, 100);
        due.is("a YIELD in its last word", y.state(0), Scene.STOPPED);
        y.run(0, 0, 0);
        y.step(0, 100);
        due.is("behind a YIELD in its last word", y.released(0), 1);
    }

    private static void words11To15() {
        due.sentence("11 to 15: fault 4");
        for (int op = 11; op < 16; op++) {
            faults("op " + op, 4, 1, 0, Words.word(op, 0, 0, 0));
            faults("op " + op + " with all else set", 4, 1, 0, Words.word(op, 7, 7, -1));
        }
        EnclaveGuards x = begun(0, Words.word(10, 7, 7, -1));
        x.step(0, 1);
        due.is("op 10 with all else set is no fault", x.state(0), Scene.STOPPED);
    }

    /** The stores that fault go to words that the system, or another enclave, then looks at. */
    private static void faultChangesNothingElse() {
        due.sentence("A fault: FAULTED, RELEASED is the number of the fault, and nothing else changes.");
        int[] faulting = {Words.jump(7, 0, 100), Words.load(2, 0, 100), Words.store(1, 0, 100), Words.word(15, 1, 1, 100),
            Words.store(1, 0, 66)};
        int[] numbers = {1, 2, 3, 4, 3};
        for (int k = 0; k < faulting.length; k++) {
            EnclaveGuards x = new EnclaveGuards(Scene.KEY);
            Words.put(x, FIRST, faulting[k]);
            Words.put(x, 64, Words.load(2, 0, 66), Words.exit(2), 31);
            Words.put(x, 100, -100);
            x.give(0, 1, 21);
            x.create(0, 2, 2, FIRST, -1);
            x.create(0, 4, 1, 64, -1);
            long m = x.measurement(0);
            x.run(1, 1, 0);
            x.run(0, 0, 5);
            x.step(0, 2);
            due.is("released(0)", x.released(0), numbers[k]);
            due.is("state(0)", x.state(0), Scene.FAULTED);
            due.is("state(1)", x.state(1), Scene.RUNNING);
            due.is("running(1)", x.running(1), 1);
            due.is("measurement(0)", x.measurement(0), m);
            due.is("owner(2)", x.owner(2), 2);
            due.is("owner(3)", x.owner(3), 2);
            due.is("denied()", x.denied(), 0);
            due.is("register(0, 1)", x.register(0, 1), 21);
            due.is("load(0, 100)", x.load(0, 100), -100);
            due.is("load(0, 32)", x.load(0, FIRST), EnclaveGuards.FAULT);
            x.step(1, 2);
            due.is("released(1): the other's word", x.released(1), 31);
        }
    }

    private static void processorRunsTheSystem() {
        due.sentence("When an enclave is RUNNING no more, its processor runs the system.");
        int[] ends = {Words.exit(0), Words.yield(), Words.word(12, 0, 0, 0), Words.load(0, 0, 0), Words.store(0, 0, 0)};
        for (int end : ends) {
            EnclaveGuards x = begun(0, Words.set(2, 0, 1), end);
            x.step(0, 1);
            due.is("running(0) before " + end, x.running(0), 0);
            due.is("load(0, 200) before " + end, x.load(0, 200), EnclaveGuards.NONE);
            x.step(0, 1);
            due.is("running(0) behind " + end, x.running(0), -1);
            due.is("load(0, 200) behind " + end, x.load(0, 200), 0);
            due.is("load(0, 32) behind " + end, x.load(0, FIRST), EnclaveGuards.FAULT);
            due.is("guard(0, 2, 1) behind " + end, x.guard(0, 2, 1), 0);
            due.is("guard(0, 9, 0) behind " + end, x.guard(0, 9, 0), 0);
            due.is("guard(0, 10, 1) behind " + end, x.guard(0, 10, 1), 7);
        }
    }
}
