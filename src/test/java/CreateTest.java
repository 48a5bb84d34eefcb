/** Promise 7: create. */
public final class CreateTest {
    private static final Due due = new Due();

    public static void main(String[] args) {
        readyEnclave();
        pagesBelongToIt();
        wordsStay();
        sharedNothing();
        sharedWord();
        sharedPage();
        leastFreeNumber();
        processorBusy();
        pagesOneToEight();
        firstIsAPage();
        lastPage();
        entryOnThePages();
        sharedInItsBounds();
        pagesNotTheSystems();
        sharedNotTheSystems();
        sharedOnItsPages();
        fourEnclaves();
        busyBeforeAllElse();
        boundsBeforeOwners();
        ownersBeforeShared();
        ownersBeforeFour();
        sharedBeforeFour();
        wildArguments();
        due.finish();
    }

    private static int make(EnclaveGuards x, int first, int pages) {
        return x.create(0, first, pages, first * 16, -1);
    }

    private static EnclaveGuards four() {
        EnclaveGuards x = new EnclaveGuards(0);
        for (int e = 0; e < 4; e++) {
            make(x, 1 + e, 1);
        }
        return x;
    }

    private static void readyEnclave() {
        due.sentence("Makes a READY enclave of so many pages from page first on");
        for (int first = 1; first < 16; first++) {
            for (int pages = 1; pages <= 8 && first + pages <= 16; pages++) {
                EnclaveGuards x = new EnclaveGuards(0);
                due.is("create of " + pages + " from " + first, make(x, first, pages), 0);
                due.is("state(0)", x.state(0), Scene.READY);
                due.is("running(0)", x.running(0), -1);
                due.is("released(0)", x.released(0), EnclaveGuards.NONE);
                due.is("state(1)", x.state(1), 0);
            }
        }
        EnclaveGuards x = new EnclaveGuards(0);
        due.is("create on processor 1", x.create(1, 3, 1, 48, -1), 0);
        due.is("running(1)", x.running(1), -1);
    }

    private static void pagesBelongToIt() {
        due.sentence("which now belong to it");
        for (int first = 1; first < 16; first++) {
            for (int pages = 1; pages <= 8 && first + pages <= 16; pages++) {
                EnclaveGuards x = new EnclaveGuards(0);
                make(x, first, pages);
                for (int page = 0; page < 16; page++) {
                    boolean its = page >= first && page < first + pages;
                    due.is("owner(" + page + "), " + pages + " from " + first, x.owner(page), page == 0 ? 0 : its ? 2 : 1);
                }
            }
        }
    }

    private static void wordsStay() {
        due.sentence("their words stay");
        int[] addresses = {48, 49, 63, 64, 94, 95};
        for (int address : addresses) {
            EnclaveGuards x = new EnclaveGuards(0);
            Words.put(x, 70, Words.load(2, 0, address), Words.exit(2));
            Words.put(x, address, -99);
            x.create(0, 3, 3, 70, -1);
            x.run(0, 0, 0);
            x.step(0, 9);
            due.is("released(0): the word at " + address, x.released(0), -99);
        }
        EnclaveGuards x = new EnclaveGuards(0);
        Words.put(x, 47, 7);
        Words.put(x, 96, 8);
        make(x, 3, 3);
        due.is("load(0, 47), the word before them", x.load(0, 47), 7);
        due.is("load(0, 96), the word behind them", x.load(0, 96), 8);
    }

    private static void guardNine(String what, int shared, int mode, int address) {
        EnclaveGuards x = new EnclaveGuards(0);
        due.is("create with " + what + ", " + shared, x.create(0, 5, 1, 80, shared), 0);
        x.run(0, 0, 0);
        due.is("guard(0, 9, 0) of " + what + ", " + shared, x.guard(0, 9, 0), mode);
        due.is("guard(0, 9, 2) of " + what + ", " + shared, x.guard(0, 9, 2), address);
    }

    private static void sharedNothing() {
        due.sentence("shared is -1 for nothing");
        guardNine("nothing", -1, 0, 0);
    }

    private static void sharedWord() {
        due.sentence("0 .. 255 for the word at this address");
        int[] words = {16, 17, 79, 96, 254, 255};
        for (int word : words) {
            guardNine("a word", word, 2, word);
        }
        EnclaveGuards x = new EnclaveGuards(0);
        due.is("create with word 0: it is the monitor's", x.create(0, 5, 1, 80, 0), -4);
    }

    private static void sharedPage() {
        due.sentence("256 + p for page p");
        int[] pages = {1, 2, 4, 6, 14, 15};
        for (int page : pages) {
            guardNine("a page", 256 + page, 3, page * 16 + 7);
        }
        EnclaveGuards x = new EnclaveGuards(0);
        due.is("create with page 0: it is the monitor's", x.create(0, 5, 1, 80, 256), -4);
    }

    private static void leastFreeNumber() {
        due.sentence("Answers its number, the least that is free.");
        for (int gone = 0; gone < 16; gone++) {
            EnclaveGuards x = four();
            for (int e = 0; e < 4; e++) {
                if ((gone >> e & 1) == 1) {
                    x.destroy(0, e);
                }
            }
            for (int e = 0; e < 4; e++) {
                if ((gone >> e & 1) == 1) {
                    due.is("create, the number " + e + " is free", x.create(1, 6 + e, 1, 96 + 16 * e, -1), e);
                    due.is("owner of its page", x.owner(6 + e), 2 + e);
                }
            }
            due.is("create, no number is free", make(x, 12, 1), -5);
        }
    }

    private static void processorBusy() {
        due.sentence("-1 the processor is BUSY");
        EnclaveGuards x = Scene.inState(Scene.RUNNING, 1);
        due.is("create(-1, ..)", x.create(-1, 8, 1, 128, -1), -1);
        due.is("create(1, ..)", x.create(1, 8, 1, 128, -1), -1);
        due.is("create(2, ..)", x.create(2, 8, 1, 128, -1), -1);
        for (int p : Scene.FAR_OFF) {
            due.is("create(" + p + ", ..)", x.create(p, 8, 1, 128, -1), -1);
        }
        due.is("create(0, ..)", x.create(0, 8, 1, 128, -1), 1);
        x.interrupt(1);
        due.is("create(1, ..), busy no more", x.create(1, 9, 1, 144, -1), 2);
    }

    private static void pagesOneToEight() {
        due.sentence("-2 pages is not 1 .. 8");
        int[] sizes = {-8, -1, 0, 1, 2, 7, 8, 9, 10, 14};
        for (int pages : sizes) {
            EnclaveGuards x = new EnclaveGuards(0);
            boolean right = pages >= 1 && pages <= 8;
            due.is("create of " + pages + " from page 1", make(x, 1, pages), right ? 0 : -2);
        }
        EnclaveGuards x = new EnclaveGuards(0);
        for (int pages : Scene.FAR_OFF) {
            due.is("create of " + pages + " from page 1", make(x, 1, pages), -2);
        }
    }

    private static void firstIsAPage() {
        due.sentence("first is not 0 .. 15");
        EnclaveGuards x = new EnclaveGuards(0);
        due.is("create from page -1, the entry on page 0", x.create(0, -1, 2, 5, -1), -2);
        due.is("create from page -1, the entry on page 1", x.create(0, -1, 8, 20, -1), -2);
        due.is("create from page -1, the entry on page -1", x.create(0, -1, 1, -5, -1), -2);
        due.is("create from page 0: it is a page, but the monitor's", x.create(0, 0, 1, 5, -1), -3);
        due.is("create from page 16", x.create(0, 16, 1, 256, -1), -2);
        for (int first : Scene.FAR_OFF) {
            due.is("create from page " + first, x.create(0, first, 1, 16, -1), -2);
            due.is("create from page " + first, x.create(0, first, 8, first * 16, -1), -2);
        }
        due.is("create from page 1", make(x, 1, 1), 0);
        due.is("create from page 15", make(x, 15, 1), 1);
    }

    private static void lastPage() {
        due.sentence("the last page would be greater than 15");
        for (int pages = 1; pages <= 8; pages++) {
            EnclaveGuards x = new EnclaveGuards(0);
            due.is("create of " + pages + " to page 16", make(x, 17 - pages, pages), -2);
            due.is("create of " + pages + " to page 15", make(x, 16 - pages, pages), 0);
        }
        EnclaveGuards x = new EnclaveGuards(0);
        due.is("create of 8 to page 22", make(x, 15, 8), -2);
    }

    private static void entryOnThePages() {
        due.sentence("entry is not the address of a word of the pages");
        int[][] layouts = {{1, 1}, {1, 8}, {4, 2}, {8, 8}, {9, 7}, {15, 1}};
        for (int[] layout : layouts) {
            int from = layout[0] * 16;
            int end = (layout[0] + layout[1]) * 16;
            int[] entries = {from - 2, from - 1, from, from + 1, end - 2, end - 1, end, end + 1};
            for (int entry : entries) {
                EnclaveGuards x = new EnclaveGuards(0);
                boolean in = entry >= from && entry < end;
                due.is("create of " + layout[1] + " from " + layout[0] + " with the entry " + entry,
                    x.create(0, layout[0], layout[1], entry, -1), in ? 0 : -2);
            }
        }
        EnclaveGuards x = new EnclaveGuards(0);
        for (int entry : Scene.FAR_OFF) {
            due.is("create with the entry " + entry, x.create(0, 4, 2, entry, -1), -2);
        }
        due.is("create with the entry 64 + 256", x.create(0, 4, 2, 320, -1), -2);
    }

    private static void sharedInItsBounds() {
        due.sentence("or shared is not -1 .. 271");
        int[] inside = {-1, 16, 255, 257, 271};
        int[] outside = {-3, -2, 272, 273, 512};
        EnclaveGuards x = new EnclaveGuards(0);
        for (int shared : outside) {
            due.is("create with shared " + shared, x.create(0, 5, 1, 80, shared), -2);
        }
        for (int shared : Scene.FAR_OFF) {
            due.is("create with shared " + shared, x.create(0, 5, 1, 80, shared), -2);
        }
        for (int shared : inside) {
            EnclaveGuards y = new EnclaveGuards(0);
            due.is("create with shared " + shared, y.create(0, 5, 1, 80, shared), 0);
        }
    }

    private static void pagesNotTheSystems() {
        due.sentence("-3 one of the pages is not the system's");
        for (int first = 0; first < 16; first++) {
            for (int pages = 1; pages <= 8 && first + pages <= 16; pages++) {
                EnclaveGuards x = new EnclaveGuards(0);
                make(x, 7, 2);
                boolean taken = first == 0 || first <= 8 && first + pages > 7;
                due.is("create of " + pages + " from " + first + " beside pages 7 and 8", make(x, first, pages), taken ? -3 : 1);
            }
        }
        for (int state = Scene.READY; state <= Scene.FAULTED; state++) {
            EnclaveGuards x = Scene.inState(state, 1);
            due.is("create of the page of one in state " + state, make(x, 2, 1), -3);
            x.interrupt(1);
            x.destroy(0, 0);
            due.is("create of the page of one that is gone", make(x, 2, 1), 0);
        }
    }

    private static void sharedNotTheSystems() {
        due.sentence("-4 the shared word or page is not on a page of the system");
        for (int shared = 0; shared <= 271; shared++) {
            EnclaveGuards x = new EnclaveGuards(0);
            make(x, 9, 2);
            int page = shared < 256 ? shared / 16 : shared - 256;
            if (page != 4) {
                boolean closed = page == 0 || page == 9 || page == 10;
                due.is("create with shared " + shared, x.create(0, 4, 1, 64, shared), closed ? -4 : 1);
            }
        }
        for (int state = Scene.READY; state <= Scene.FAULTED; state++) {
            EnclaveGuards x = Scene.inState(state, 1);
            due.is("create with a word of one in state " + state, x.create(0, 4, 1, 64, 47), -4);
            due.is("create with a page of one in state " + state, x.create(0, 4, 1, 64, 258), -4);
            x.interrupt(1);
            x.destroy(0, 0);
            due.is("create with a word of one that is gone", x.create(0, 4, 1, 64, 47), 0);
            due.is("create with a word that is shared already", x.create(0, 5, 1, 80, 47), 1);
            due.is("create with a page of which a word is shared", x.create(0, 6, 1, 96, 258), 2);
        }
    }

    private static void sharedOnItsPages() {
        due.sentence("or is on one of the pages");
        for (int pages = 1; pages <= 8; pages++) {
            int end = (5 + pages) * 16;
            int[] words = {79, 80, 95, end - 1, end};
            for (int word : words) {
                EnclaveGuards x = new EnclaveGuards(0);
                boolean its = word >= 80 && word < end;
                due.is(pages + " from page 5 with word " + word, x.create(0, 5, pages, 80, word), its ? -4 : 0);
            }
            int[] sharedPages = {4, 5, 4 + pages, 5 + pages};
            for (int page : sharedPages) {
                EnclaveGuards x = new EnclaveGuards(0);
                boolean its = page >= 5 && page < 5 + pages;
                due.is(pages + " from page 5 with page " + page, x.create(0, 5, pages, 80, 256 + page), its ? -4 : 0);
            }
        }
    }

    private static void fourEnclaves() {
        due.sentence("-5 there are four enclaves");
        for (int state = Scene.READY; state <= Scene.FAULTED; state++) {
            EnclaveGuards x = Scene.inState(state, 1);
            due.is("create, there is one", make(x, 4, 1), 1);
            due.is("create, there are two", make(x, 5, 1), 2);
            due.is("create, there are three", make(x, 6, 1), 3);
            due.is("create, there are four, one in state " + state, make(x, 7, 1), -5);
            x.destroy(0, 2);
            due.is("create, there are three again", make(x, 7, 1), 2);
            due.is("create, there are four again", make(x, 8, 1), -5);
        }
    }

    private static void busyBeforeAllElse() {
        due.sentence("Else the first of these that holds: -1 the processor is BUSY; -2");
        int[] busy = {-1, 1, 2};
        for (int p : busy) {
            EnclaveGuards x = four();
            x.run(1, 3, 0);
            due.is("-1 and -2 by pages", x.create(p, 8, 9, 128, -1), -1);
            due.is("-1 and -2 by first", x.create(p, 16, 1, 128, -1), -1);
            due.is("-1 and -2 by entry", x.create(p, 8, 1, 127, -1), -1);
            due.is("-1 and -2 by shared", x.create(p, 8, 1, 128, 272), -1);
            due.is("-1 and -3", x.create(p, 0, 1, 0, -1), -1);
            due.is("-1 and -4", x.create(p, 8, 1, 128, 128), -1);
            due.is("-1 and -5", x.create(p, 8, 1, 128, -1), -1);
            due.is("all of them", x.create(p, 0, 9, 300, 272), -1);
        }
    }

    private static void boundsBeforeOwners() {
        due.sentence("-2 pages is not 1 .. 8, first is not 0 .. 15, the last page would be greater than 15, entry is not"
            + " the address of a word of the pages, or shared is not -1 .. 271; -3");
        EnclaveGuards x = four();
        due.is("-2 by pages and -3", x.create(0, 0, 9, 0, -1), -2);
        due.is("-2 by pages, 0 of them, and -4", x.create(0, 8, 0, 128, 0), -2);
        due.is("-2 by first and -4", x.create(0, -1, 2, 5, 5), -2);
        due.is("-2 by entry and -3, before", x.create(0, 1, 1, 15, -1), -2);
        due.is("-2 by entry and -3, behind", x.create(0, 0, 1, 16, -1), -2);
        due.is("-2 by shared and -3", x.create(0, 1, 1, 16, 272), -2);
        due.is("-2 by shared and -3", x.create(0, 0, 1, 0, -2), -2);
        due.is("-2 by entry and -4", x.create(0, 8, 1, 127, 0), -2);
        due.is("-2 by pages and -5", x.create(0, 6, 9, 96, -1), -2);
        due.is("-2 by first and -5", x.create(0, 16, 1, 256, -1), -2);
        due.is("-2 by entry and -5", x.create(0, 8, 1, 144, -1), -2);
        due.is("-2 by shared and -5", x.create(0, 8, 1, 128, 272), -2);
        EnclaveGuards y = new EnclaveGuards(0);
        make(y, 15, 1);
        due.is("-2 by the last page and -3", y.create(0, 15, 2, 240, -1), -2);
    }

    private static void ownersBeforeShared() {
        due.sentence("-3 one of the pages is not the system's; -4");
        EnclaveGuards x = new EnclaveGuards(0);
        make(x, 4, 1);
        due.is("-3 and -4, the monitor's word", x.create(0, 4, 1, 64, 15), -3);
        due.is("-3 and -4, the monitor's page", x.create(0, 4, 1, 64, 256), -3);
        due.is("-3 and -4, a word of its own", x.create(0, 3, 2, 48, 48), -3);
        due.is("-3 and -4, a page of its own", x.create(0, 4, 2, 64, 256 + 5), -3);
        due.is("-3 and -4, another's word", x.create(0, 0, 1, 0, 64), -3);
        due.is("-4 alone", x.create(0, 5, 1, 80, 64), -4);
    }

    private static void ownersBeforeFour() {
        due.sentence("-3 one of the pages is not the system's");
        EnclaveGuards x = four();
        due.is("-3 and -5, the monitor's page", x.create(0, 0, 1, 0, -1), -3);
        due.is("-3 and -5, by the first of three", x.create(0, 4, 3, 64, -1), -3);
        due.is("-5 alone", x.create(0, 5, 3, 80, -1), -5);
    }

    private static void sharedBeforeFour() {
        due.sentence("-4 the shared word or page is not on a page of the system, or is on one of the pages; -5");
        EnclaveGuards x = four();
        due.is("-4 and -5, the monitor's page", x.create(0, 8, 1, 128, 256), -4);
        due.is("-4 and -5, another's word", x.create(0, 8, 1, 128, 64), -4);
        due.is("-4 and -5, its own word", x.create(0, 8, 1, 128, 143), -4);
        due.is("-5 alone", x.create(0, 8, 1, 128, 144), -5);
    }

    private static void wildArguments() {
        due.sentence("-2 pages is not 1 .. 8, first is not 0 .. 15, the last page would be greater than 15");
        EnclaveGuards x = new EnclaveGuards(0);
        int[] wild = {Integer.MIN_VALUE, Integer.MIN_VALUE + 7, Integer.MAX_VALUE, Integer.MAX_VALUE - 7, 1 << 28,
            -(1 << 28), (1 << 28) + 4};
        for (int a : wild) {
            due.is("create(0, " + a + ", 1, 64, -1)", x.create(0, a, 1, 64, -1), -2);
            due.is("create(0, 4, " + a + ", 64, -1)", x.create(0, 4, a, 64, -1), -2);
            due.is("create(0, 4, 1, " + a + ", -1)", x.create(0, 4, 1, a, -1), -2);
            due.is("create(0, 4, 1, 64, " + a + ")", x.create(0, 4, 1, 64, a), -2);
            for (int b : wild) {
                due.is("create(0, " + a + ", " + b + ", 64, -1)", x.create(0, a, b, 64, -1), -2);
            }
        }
    }
}
