/** Promise 5: give. */
public final class GiveTest {
    private static final Due due = new Due();

    public static void main(String[] args) {
        becomesV();
        falseIfBusy();
        falseIfNoRegister();
        bothAtOnce();
        due.finish();
    }

    private static void becomesV() {
        due.sentence("The system's register k on a processor becomes v");
        int[] values = {Integer.MIN_VALUE, -1, 0, 1, Integer.MAX_VALUE};
        for (int p = 0; p < 2; p++) {
            for (int k = 0; k < 8; k++) {
                EnclaveGuards x = new EnclaveGuards(0);
                for (int v : values) {
                    due.is("give(" + p + ", " + k + ", " + v + ")", x.give(p, k, v), true);
                    due.is("register(" + p + ", " + k + ")", x.register(p, k), v);
                }
                for (int other = 0; other < 8; other++) {
                    long want = other == k ? Integer.MAX_VALUE : 0;
                    due.is("register(" + p + ", " + other + ") beside it", x.register(p, other), want);
                    due.is("register of the other processor", x.register(1 - p, other), 0);
                }
            }
        }
    }

    private static void falseIfBusy() {
        due.sentence("false if it is BUSY");
        EnclaveGuards x = Scene.inState(Scene.RUNNING, 1);
        due.is("give(-1, 3, 4)", x.give(-1, 3, 4), false);
        due.is("give(0, 3, 4)", x.give(0, 3, 4), true);
        due.is("give(1, 3, 4)", x.give(1, 3, 4), false);
        due.is("give(2, 3, 4)", x.give(2, 3, 4), false);
        for (int p : Scene.FAR_OFF) {
            due.is("give(" + p + ", 3, 4)", x.give(p, 3, 4), false);
        }
        x.interrupt(1);
        due.is("register(1, 3)", x.register(1, 3), 0);
        due.is("give(1, 3, 4), busy no more", x.give(1, 3, 4), true);
    }

    private static void falseIfNoRegister() {
        due.sentence("or k is not 0 .. 7");
        EnclaveGuards x = new EnclaveGuards(0);
        for (int p = 0; p < 2; p++) {
            due.is("give(" + p + ", -1, 4)", x.give(p, -1, 4), false);
            due.is("give(" + p + ", 8, 4)", x.give(p, 8, 4), false);
            for (int k : Scene.FAR_OFF) {
                due.is("give(" + p + ", " + k + ", 4)", x.give(p, k, 4), false);
            }
            for (int k = 0; k < 8; k++) {
                due.is("register(" + p + ", " + k + ")", x.register(p, k), 0);
            }
            due.is("give(" + p + ", 0, 4)", x.give(p, 0, 4), true);
            due.is("give(" + p + ", 7, 4)", x.give(p, 7, 4), true);
        }
    }

    private static void bothAtOnce() {
        due.sentence("false if it is BUSY or k is not 0 .. 7.");
        EnclaveGuards x = Scene.inState(Scene.RUNNING, 1);
        int[] busy = {-1, 1, 2};
        for (int p : busy) {
            due.is("give(" + p + ", -1, 4)", x.give(p, -1, 4), false);
            due.is("give(" + p + ", 8, 4)", x.give(p, 8, 4), false);
        }
    }
}
