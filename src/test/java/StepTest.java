/** Promise 9: step. What a STEP does stands under Terms, and in StepTermsTest. */
public final class StepTest {
    private static final Due due = new Due();

    public static void main(String[] args) {
        upToN();
        whileItIsRunning();
        theOneThatEndedItCounts();
        noSuchProcessor();
        runsTheSystem();
        nIsOneToAHundred();
        ofItsOwnProcessor();
        due.finish();
    }

    /** An enclave that adds 1 to r2 so many times, and then does the last word. */
    private static EnclaveGuards counting(int times, int last) {
        EnclaveGuards x = new EnclaveGuards(0);
        for (int k = 0; k < times; k++) {
            x.store(0, 16 + k, Words.set(2, 2, 1));
        }
        x.store(0, 16 + times, last);
        x.create(0, 1, 7, 16, -1);
        x.run(0, 0, 0);
        return x;
    }

    private static void upToN() {
        due.sentence("Up to n steps of the enclave that runs on the processor");
        int[] ns = {1, 2, 50, 99, 100};
        for (int n : ns) {
            EnclaveGuards x = counting(101, Words.exit(2));
            due.is("step(0, " + n + ")", x.step(0, n), n);
            due.is("state(0) behind it", x.state(0), Scene.RUNNING);
            due.is("the steps to its end", x.step(0, 100) + (n == 1 ? x.step(0, 100) : 0), 102 - n);
            due.is("released(0)", x.released(0), 101);
        }
    }

    private static void whileItIsRunning() {
        due.sentence("while it is RUNNING");
        int[] lasts = {Words.exit(2), Words.yield(), Words.load(0, 0, 0), Words.store(0, 0, 0), Words.word(11, 0, 0, 0)};
        int[] states = {Scene.EXITED, Scene.STOPPED, Scene.FAULTED, Scene.FAULTED, Scene.FAULTED};
        for (int k = 0; k < lasts.length; k++) {
            for (int n = 4; n <= 7; n++) {
                EnclaveGuards x = counting(5, lasts[k]);
                due.is("step(0, " + n + ") to the end by " + lasts[k], x.step(0, n), Math.min(n, 6));
                due.is("state(0)", x.state(0), n < 6 ? Scene.RUNNING : states[k]);
                due.is("running(0)", x.running(0), n < 6 ? 0 : -1);
            }
        }
    }

    private static void theOneThatEndedItCounts() {
        due.sentence("Answers how many were made, the one that ended it counted too");
        int[] lasts = {Words.exit(2), Words.yield(), Words.load(0, 0, 0), Words.store(0, 0, 0), Words.word(11, 0, 0, 0)};
        for (int last : lasts) {
            due.is("step(0, 1), the first word ends it: " + last, counting(0, last).step(0, 1), 1);
            due.is("step(0, 100), the first word ends it: " + last, counting(0, last).step(0, 100), 1);
            due.is("step(0, 100), the 99th word ends it: " + last, counting(98, last).step(0, 100), 99);
            EnclaveGuards x = counting(99, last);
            due.is("step(0, 100), the 100th word ends it: " + last, x.step(0, 100), 100);
            due.is("running(0)", x.running(0), -1);
            EnclaveGuards y = counting(100, last);
            due.is("step(0, 100), the 101st word ends it: " + last, y.step(0, 100), 100);
            due.is("running(0)", y.running(0), 0);
            due.is("step(0, 100), and that word", y.step(0, 100), 1);
        }
        EnclaveGuards x = counting(0, Words.jump(7, 0, 0));
        due.is("step(0, 100), a fetch ends it", x.step(0, 100), 2);
        due.is("released(0)", x.released(0), 1);
    }

    private static void noSuchProcessor() {
        due.sentence("-1 if there is no such processor");
        EnclaveGuards x = counting(9, 0);
        x.create(1, 9, 1, 144, -1);
        x.run(1, 1, 0);
        due.is("step(-1, 1)", x.step(-1, 1), -1);
        due.is("step(0, 1)", x.step(0, 1), 1);
        due.is("step(1, 1)", x.step(1, 1), 1);
        due.is("step(2, 1)", x.step(2, 1), -1);
        for (int p : Scene.FAR_OFF) {
            due.is("step(" + p + ", 1)", x.step(p, 1), -1);
        }
    }

    private static void runsTheSystem() {
        due.sentence("it runs the system");
        EnclaveGuards x = counting(0, Words.yield());
        due.is("step(1, 1), beside it", x.step(1, 1), -1);
        due.is("step(0, 1)", x.step(0, 1), 1);
        due.is("step(0, 1), when it has ended", x.step(0, 1), -1);
        x.run(1, 0, 0);
        x.interrupt(1);
        due.is("step(1, 1), when it is interrupted", x.step(1, 1), -1);
        due.is("step(0, 1) of a new object", new EnclaveGuards(0).step(0, 1), -1);
    }

    private static void nIsOneToAHundred() {
        due.sentence("or n is not 1 .. 100");
        int[] wrong = {0, -1, 101, 102};
        for (int n : wrong) {
            EnclaveGuards x = counting(105, Words.exit(2));
            due.is("step(0, " + n + ")", x.step(0, n), -1);
            due.is("step(0, 100) behind it", x.step(0, 100), 100);
        }
        for (int n : Scene.FAR_OFF) {
            due.is("step(0, " + n + ")", counting(5, 0).step(0, n), -1);
        }
        due.is("step(0, 1)", counting(105, 0).step(0, 1), 1);
        due.is("step(0, 100)", counting(105, 0).step(0, 100), 100);
    }

    private static void ofItsOwnProcessor() {
        due.sentence("Up to n steps of the enclave that runs on the processor");
        EnclaveGuards x = twoRunning();
        due.is("step(1, 2)", x.step(1, 2), 2);
        due.is("step(0, 5)", x.step(0, 5), 3);
        due.is("state(0)", x.state(0), Scene.EXITED);
        due.is("state(1)", x.state(1), Scene.RUNNING);
        due.is("released(0)", x.released(0), 2);
        due.is("step(1, 5)", x.step(1, 5), 1);
        due.is("released(1)", x.released(1), 20);
    }

    private static EnclaveGuards twoRunning() {
        EnclaveGuards x = new EnclaveGuards(0);
        Words.put(x, 32, Words.set(2, 2, 1), Words.set(2, 2, 1), Words.exit(2));
        Words.put(x, 48, Words.set(2, 2, 10), Words.set(2, 2, 10), Words.exit(2));
        x.create(0, 2, 1, 32, -1);
        x.create(0, 3, 1, 48, -1);
        x.run(0, 0, 0);
        x.run(1, 1, 0);
        return x;
    }
}
