/** Promise 14: measurement. What the MEASUREMENT is stands under Terms, and in MixTest. */
public final class MeasurementTest {
    private static final Due due = new Due();

    public static void main(String[] args) {
        theMeasurement();
        inEachState();
        notThere();
        due.finish();
    }

    private static void theMeasurement() {
        due.sentence("The measurement of enclave e");
        EnclaveGuards x = new EnclaveGuards(12345);
        Words.put(x, 32, 327969, 2621492, 802, 2687013, 10, 584, 89, 32, 100);
        x.create(0, 4, 1, 64, -1);
        x.create(0, 2, 1, 32, -1);
        x.create(0, 5, 2, 80, -1);
        x.create(0, 8, 8, 255, -1);
        long[] want = {-954859082L, -890109527L, 2015407858L, 1645137283L};
        for (int e = 0; e < 4; e++) {
            due.is("measurement(" + e + ")", x.measurement(e), want[e]);
        }
    }

    private static void inEachState() {
        due.sentence("The measurement of enclave e");
        for (int state = Scene.READY; state <= Scene.FAULTED; state++) {
            int want = Words.measure(1, 0, Scene.ending(state), Words.exit(1));
            due.is("measurement(0) in state " + state, Scene.inState(state, 1).measurement(0), want);
        }
    }

    private static void notThere() {
        due.sentence("NONE if it is not there");
        EnclaveGuards x = new EnclaveGuards(0);
        for (int e = 0; e < 4; e++) {
            due.is("measurement(" + e + "), not made yet", x.measurement(e), EnclaveGuards.NONE);
            x.create(0, 1 + e, 1, 16 + 16 * e, -1);
            due.is("measurement(" + e + ")", x.measurement(e), -954859082L);
        }
        due.is("measurement(-1)", x.measurement(-1), EnclaveGuards.NONE);
        due.is("measurement(4)", x.measurement(4), EnclaveGuards.NONE);
        for (int e : Scene.FAR_OFF) {
            due.is("measurement(" + e + ")", x.measurement(e), EnclaveGuards.NONE);
        }
        for (int e = 0; e < 4; e++) {
            x.destroy(0, e);
            due.is("measurement(" + e + "), gone", x.measurement(e), EnclaveGuards.NONE);
        }
    }
}
