/** Promise 7: create. */
public final class CreateTest {
    private static final Due due = new Due();

    public static void main(String[] args) {
        everyPlaceAndSize();
        wordsStay();
        entries();
        sharedThings();
        numbersAreTheLeastFree();
        refusalsInTheirOrder();
        wildArguments();
        refusalsChangeNothing();
        due.finish();
    }

    private static int make(EnclaveGuards x, int first, int pages) {
        return x.create(0, first, pages, first * 16, -1);
    }

    private static void everyPlaceAndSize() {
        for (int first = -1; first <= 16; first++) {
            for (int pages = -1; pages <= 10; pages++) {
                EnclaveGuards x = new EnclaveGuards(0);
                boolean fits = first >= 0 && pages >= 1 && pages <= 8 && first + pages <= 16;
                int want = !fits ? -2 : first == 0 ? -3 : 0;
                String name = "create(0, " + first + ", " + pages + ", ..)";
                due.is(name, make(x, first, pages), want);
                due.is("state(0) after " + name, x.state(0), want == 0 ? 1 : 0);
                for (int page = 1; page < 16; page++) {
                    boolean its = want == 0 && page >= first && page < first + pages;
                    due.is("owner(" + page + ") after " + name, x.owner(page), its ? 2 : 1);
                }
            }
        }
    }

    private static void wordsStay() {
        EnclaveGuards x = new EnclaveGuards(0);
        Words.put(x, 100, Words.load(2, 0, 111), Words.exit(2));
        Words.put(x, 111, -99);
        x.create(0, 6, 1, 100, -1);
        x.run(0, 0, 0);
        due.is("step(0, 9)", x.step(0, 9), 2);
        due.is("released(0)", x.released(0), -99);
    }

    private static void entries() {
        for (int entry = 60; entry <= 100; entry++) {
            EnclaveGuards x = new EnclaveGuards(0);
            boolean in = entry >= 64 && entry < 96;
            due.is("create(0, 4, 2, " + entry + ", -1)", x.create(0, 4, 2, entry, -1), in ? 0 : -2);
        }
        EnclaveGuards x = new EnclaveGuards(0);
        for (int entry : Words.WRONG_NUMBERS) {
            due.is("create(0, 4, 2, " + entry + ", -1)", x.create(0, 4, 2, entry, -1), -2);
        }
        due.is("create(0, 15, 1, 256, -1)", x.create(0, 15, 1, 256, -1), -2);
        due.is("create(0, 15, 1, 255, -1)", x.create(0, 15, 1, 255, -1), 0);
    }

    private static void sharedThings() {
        for (int shared = -3; shared <= 275; shared++) {
            EnclaveGuards x = new EnclaveGuards(0);
            make(x, 9, 1);
            int page = shared < 256 ? Math.floorDiv(shared, 16) : shared - 256;
            boolean closed = page == 0 || page == 9 || page == 4 || page == 5;
            int want = shared < -1 || shared > 271 ? -2 : shared != -1 && closed ? -4 : 1;
            due.is("create(0, 4, 2, 64, " + shared + ")", x.create(0, 4, 2, 64, shared), want);
        }
        EnclaveGuards x = new EnclaveGuards(0);
        x.create(0, 4, 1, 64, 80);
        due.is("two share a word", x.create(0, 6, 1, 96, 80), 1);
        due.is("its page is still the system's", x.owner(5), 1);
        due.is("a shared page may become an enclave's", make(x, 5, 1), 2);
        due.is("and then be shared no more", x.create(0, 7, 1, 112, 80), -4);
    }

    private static void numbersAreTheLeastFree() {
        EnclaveGuards x = new EnclaveGuards(0);
        for (int e = 0; e < 4; e++) {
            due.is("create number " + e, make(x, 1 + 2 * e, 1), e);
        }
        due.is("a fifth", make(x, 10, 1), -5);
        x.destroy(0, 2);
        x.destroy(0, 1);
        due.is("the least free", x.create(1, 12, 3, 200, -1), 1);
        due.is("owner(13)", x.owner(13), 3);
        due.is("the next", make(x, 10, 1), 2);
        due.is("and none", make(x, 3, 1), -5);
        due.is("state(1)", x.state(1), 1);
        x.run(0, 0, 0);
        x.step(0, 1);
        due.is("an exited one still has its number", x.create(0, 3, 1, 48, -1), -5);
    }

    private static void refusalsInTheirOrder() {
        EnclaveGuards x = new EnclaveGuards(0);
        for (int e = 0; e < 4; e++) {
            make(x, 1 + e, 1);
        }
        x.run(1, 3, 0);
        due.is("-1 before -2", x.create(1, 99, 99, 999, 999), -1);
        due.is("-1 before -2, no processor", x.create(2, 99, 99, 999, 999), -1);
        due.is("-1, no processor", x.create(-1, 8, 1, 128, -1), -1);
        due.is("-1, busy", x.create(1, 8, 1, 128, -1), -1);
        due.is("-2 before -3", x.create(0, 1, 1, 15, -1), -2);
        due.is("-2 before -3, shared", x.create(0, 1, 1, 16, 272), -2);
        due.is("-3 before -4", x.create(0, 1, 1, 16, 16), -3);
        due.is("-3, the monitor's page", x.create(0, 0, 1, 0, -1), -3);
        due.is("-3 before -5, by one page of three", x.create(0, 4, 3, 64, -1), -3);
        due.is("-4 before -5", x.create(0, 8, 1, 128, 256), -4);
        due.is("-5", x.create(0, 8, 1, 128, 144), -5);
    }

    private static void wildArguments() {
        EnclaveGuards x = new EnclaveGuards(0);
        int[] wild = {Integer.MIN_VALUE, Integer.MIN_VALUE + 7, Integer.MAX_VALUE, Integer.MAX_VALUE - 7, 1 << 28, -(1 << 28)};
        for (int a : wild) {
            due.is("create(" + a + ", 4, 1, 64, -1)", x.create(a, 4, 1, 64, -1), -1);
            due.is("create(0, " + a + ", 1, 64, -1)", x.create(0, a, 1, 64, -1), -2);
            due.is("create(0, 4, " + a + ", 64, -1)", x.create(0, 4, a, 64, -1), -2);
            due.is("create(0, 4, 1, " + a + ", -1)", x.create(0, 4, 1, a, -1), -2);
            due.is("create(0, 4, 1, 64, " + a + ")", x.create(0, 4, 1, 64, a), -2);
            for (int b : wild) {
                due.is("create(0, " + a + ", " + b + ", 64, -1)", x.create(0, a, b, 64, -1), -2);
            }
        }
    }

    private static void refusalsChangeNothing() {
        EnclaveGuards x = new EnclaveGuards(0);
        make(x, 6, 1);
        x.create(0, 4, 3, 64, -1);
        x.create(0, 4, 1, 64, 65);
        x.create(0, 4, 1, 63, -1);
        for (int e = 1; e < 4; e++) {
            due.is("state(" + e + ")", x.state(e), 0);
            due.is("guard(0, " + (2 + 2 * e) + ", 0)", x.guard(0, 2 + 2 * e, 0), 0);
        }
        due.is("owner(4)", x.owner(4), 1);
        due.is("owner(5)", x.owner(5), 1);
        due.is("owner(6)", x.owner(6), 2);
        due.is("denied()", x.denied(), 0);
    }
}
