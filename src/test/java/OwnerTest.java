/** Promise 17: owner. */
public final class OwnerTest {
    private static final Due due = new Due();

    public static void main(String[] args) {
        monitor();
        system();
        enclaves();
        noSuchPage();
        due.finish();
    }

    private static void monitor() {
        due.sentence("Whose a page is: 0 the monitor's");
        EnclaveGuards x = new EnclaveGuards(0);
        due.is("owner(0)", x.owner(0), 0);
        Scene.fourEnclaves(x);
        due.is("owner(0) with four enclaves", x.owner(0), 0);
    }

    private static void system() {
        due.sentence("1 the system's");
        EnclaveGuards x = new EnclaveGuards(0);
        for (int page = 1; page < 16; page++) {
            due.is("owner(" + page + ")", x.owner(page), 1);
        }
        x.create(0, 5, 1, 80, 256 + 4);
        x.run(0, 0, 0);
        due.is("owner(4), which an enclave shares", x.owner(4), 1);
    }

    private static void enclaves() {
        due.sentence("2 + e enclave e's");
        EnclaveGuards x = new EnclaveGuards(0);
        int[] want = {0, 2, 3, 3, 1, 4, 4, 4, 1, 1, 1, 1, 5, 5, 5, 5};
        x.create(0, 1, 1, 16, -1);
        x.create(0, 2, 2, 32, -1);
        x.create(0, 5, 3, 80, 256 + 4);
        x.create(0, 12, 4, 192, -1);
        for (int page = 0; page < 16; page++) {
            due.is("owner(" + page + ")", x.owner(page), want[page]);
        }
        x.destroy(1, 1);
        due.is("owner(1) behind destroy(1, 1)", x.owner(1), 2);
        due.is("owner(2) behind destroy(1, 1)", x.owner(2), 1);
        due.is("owner(3) behind destroy(1, 1)", x.owner(3), 1);
        for (int state = Scene.READY; state <= Scene.FAULTED; state++) {
            due.is("owner(2) in state " + state, Scene.inState(state, 0).owner(2), 2);
        }
    }

    private static void noSuchPage() {
        due.sentence("-1 if there is no such page");
        EnclaveGuards x = new EnclaveGuards(0);
        due.is("owner(-1)", x.owner(-1), -1);
        due.is("owner(0)", x.owner(0), 0);
        due.is("owner(15)", x.owner(15), 1);
        due.is("owner(16)", x.owner(16), -1);
        for (int page : Scene.FAR_OFF) {
            due.is("owner(" + page + ")", x.owner(page), -1);
        }
    }
}
