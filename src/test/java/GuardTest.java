/** Promise 18: guard. What the guards are stands under Terms, and in GuardTermsTest. */
public final class GuardTest {
    private static final Due due = new Due();

    public static void main(String[] args) {
        modeRightsAddress();
        noSuchProcessor();
        noSuchGuard();
        noSuchAnswer();
        askedAtAnyTime();
        due.finish();
    }

    private static void modeRightsAddress() {
        due.sentence("Of guard k of a processor: 0 its mode, 1 its rights, 2 its address");
        EnclaveGuards x = new EnclaveGuards(0);
        Scene.fourEnclaves(x);
        int[][] of0 = {{3, 0, 7}, {0, 0, 16}, {1, 0, 64}, {0, 0, 0}, {3, 0, 79}, {0, 0, 0}, {3, 0, 103}, {0, 0, 112},
            {1, 0, 144}, {0, 0, 0}, {3, 7, 127}};
        int[][] of1 = {{3, 0, 7}, {0, 0, 16}, {1, 7, 64}, {0, 0, 0}, {3, 0, 79}, {0, 0, 0}, {3, 0, 103}, {0, 0, 112},
            {1, 0, 144}, {2, 3, 200}, {3, 0, 127}};
        for (int k = 0; k < 11; k++) {
            for (int which = 0; which < 3; which++) {
                due.is("guard(0, " + k + ", " + which + ")", x.guard(0, k, which), of0[k][which]);
                due.is("guard(1, " + k + ", " + which + ")", x.guard(1, k, which), of1[k][which]);
            }
        }
    }

    private static void noSuchProcessor() {
        due.sentence("-1 if there is no such processor");
        EnclaveGuards x = new EnclaveGuards(0);
        due.is("guard(-1, 10, 1)", x.guard(-1, 10, 1), -1);
        due.is("guard(0, 10, 1)", x.guard(0, 10, 1), 7);
        due.is("guard(1, 10, 1)", x.guard(1, 10, 1), 7);
        due.is("guard(2, 10, 1)", x.guard(2, 10, 1), -1);
        for (int p : Scene.FAR_OFF) {
            due.is("guard(" + p + ", 10, 1)", x.guard(p, 10, 1), -1);
            due.is("guard(" + p + ", " + p + ", " + p + ")", x.guard(p, p, p), -1);
        }
    }

    private static void noSuchGuard() {
        due.sentence("or guard");
        EnclaveGuards x = new EnclaveGuards(0);
        due.is("guard(0, -1, 0)", x.guard(0, -1, 0), -1);
        due.is("guard(0, 0, 0)", x.guard(0, 0, 0), 3);
        due.is("guard(1, 10, 0)", x.guard(1, 10, 0), 3);
        due.is("guard(1, 11, 0)", x.guard(1, 11, 0), -1);
        for (int k : Scene.FAR_OFF) {
            due.is("guard(0, " + k + ", 0)", x.guard(0, k, 0), -1);
        }
    }

    private static void noSuchAnswer() {
        due.sentence("or which is not 0 .. 2");
        EnclaveGuards x = new EnclaveGuards(0);
        due.is("guard(0, 0, -1)", x.guard(0, 0, -1), -1);
        due.is("guard(0, 0, 0)", x.guard(0, 0, 0), 3);
        due.is("guard(0, 0, 2)", x.guard(0, 0, 2), 7);
        due.is("guard(0, 0, 3)", x.guard(0, 0, 3), -1);
        for (int which : Scene.FAR_OFF) {
            due.is("guard(0, 0, " + which + ")", x.guard(0, 0, which), -1);
        }
    }

    private static void askedAtAnyTime() {
        due.sentence("The guards of a processor are, at any time:");
        EnclaveGuards x = new EnclaveGuards(0);
        Scene.bothBusy(x);
        due.is("guard(0, 10, 1), asked of a busy processor", x.guard(0, 10, 1), 0);
        due.is("guard(0, 9, 2), asked of a busy processor", x.guard(0, 9, 2), 215);
    }
}
