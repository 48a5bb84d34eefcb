import java.util.ArrayList;
import java.util.List;
import java.util.TreeSet;

/** All promises: long runs of calls, of right and wrong arguments, against the model. */
public final class ModelTest {
    private static final int RUNS = 3000;
    private static final int CALLS = 512;
    // So many calls mostly store, so that the enclaves have programs of more than a word or two.
    private static final int FILLING_CALLS = 150;
    private static final int[] EDGES = {0, 1, -1, 2, 7, 8, 15, 16, 100, 101, 255, 256, 271, 272,
        Integer.MIN_VALUE, Integer.MAX_VALUE};
    private static final String[] MUST_BE_SEEN = {
        "create -1", "create -2", "create -3", "create -4", "create -5", "create 0", "create 1", "create 2", "create 3",
        "run -1", "run -2", "run 0", "step -1", "step 1", "step 100", "interrupt -1", "interrupt 0", "interrupt 3",
        "destroy -1", "destroy -2", "destroy -3", "destroy 0", "state -1", "state 0", "state 1", "state 2", "state 3",
        "state 4", "state 5", "released 1", "released 2", "released 3", "released 4", "verify 0", "verify 1",
        "running -2", "running -1", "running 0", "running 3", "owner -1", "owner 0", "owner 1", "owner 2", "owner 5",
        "store -1", "store 0", "store 1", "give 0", "give 1", "guard -1",
    };

    private final Due due = new Due();
    private final TreeSet<String> seen = new TreeSet<>();
    private final List<String> trace = new ArrayList<>();
    // A small generator of our own with a fixed seed, so that every run of the test makes the same calls.
    private long seed = 20261115L;
    private int key;
    private EnclaveGuards real;
    private OwnerModel model;

    public static void main(String[] args) {
        ModelTest test = new ModelTest();
        test.due.sentence("An object is used for at most 512 calls after it has been made");
        for (int run = 0; run < RUNS && !test.due.anyWrong(); run++) {
            test.oneRun();
        }
        for (String answer : MUST_BE_SEEN) {
            test.due.holds("the runs came to " + answer, test.seen.contains(answer));
        }
        test.due.finish();
    }

    private int below(int bound) {
        seed = seed * 6364136223846793005L + 1442695040888963407L;
        return (int) ((seed >>> 33) % bound);
    }

    private int between(int least, int most) {
        return least + below(most - least + 1);
    }

    /** Mostly from least to most, at times a number that is wrong or at an edge. */
    private int mostly(int least, int most) {
        return below(16) == 0 ? EDGES[below(EDGES.length)] : between(least, most);
    }

    private int anInt() {
        return below(3) == 0 ? EDGES[below(EDGES.length)] : below(1 << 30) * 4 + below(4);
    }

    private int aWord() {
        int op = below(12) == 0 ? between(10, 15) : between(0, 9);
        if (op == 0 && below(3) != 0) {
            op = 1;
        }
        int i = below(3) == 0 ? between(-8, 8) : between(-1, 257);
        if (op == 6) {
            i = between(-6, 3);
        }
        int idle = below(8) == 0 ? below(2) << 7 | below(32) << 11 : 0;
        return Words.word(op, below(4), below(8) == 0 ? below(8) : below(2) * 2, i) | idle;
    }

    private void oneRun() {
        key = anInt();
        real = new EnclaveGuards(key);
        model = new OwnerModel(key);
        trace.clear();
        for (int call = 0; call < CALLS && !due.anyWrong(); call++) {
            if (call < FILLING_CALLS && below(8) != 0) {
                storeCall(below(2), between(16, 127));
            } else {
                oneCall();
            }
        }
        if (due.anyWrong()) {
            System.out.println("key " + key);
            trace.forEach(System.out::println);
        }
    }

    private void answers(String call, String text, long got, long want) {
        trace.add(call + text + " " + got);
        due.is(call + text, got, want);
        if (want >= -5 && want <= 100) {
            seen.add(call + " " + want);
        }
    }

    private void oneCall() {
        int kind = below(100);
        int p = mostly(0, 1);
        int e = mostly(0, 3);
        if (kind < 28) {
            storeCall(p, mostly(0, 255));
        } else if (kind < 36) {
            createCall(p);
        } else if (kind < 46) {
            int argument = below(2) == 0 ? between(0, 255) : anInt();
            answers("run", "(" + p + ", " + e + ", " + argument + ")", real.run(p, e, argument), model.run(p, e, argument));
        } else if (kind < 60) {
            int n = below(3) == 0 ? mostly(1, 100) : below(6) == 0 ? 100 : mostly(1, 5);
            answers("step", "(" + p + ", " + n + ")", real.step(p, n), model.step(p, n));
        } else if (kind < 64) {
            answers("interrupt", "(" + p + ")", real.interrupt(p), model.interrupt(p));
        } else if (kind < 67) {
            answers("destroy", "(" + p + ", " + e + ")", real.destroy(p, e), model.destroy(p, e));
        } else if (kind < 75) {
            int x = mostly(0, 255);
            answers("load", "(" + p + ", " + x + ")", real.load(p, x), model.load(p, x));
        } else if (kind < 83) {
            int k = mostly(0, 10);
            int which = mostly(0, 2);
            answers("guard", "(" + p + ", " + k + ", " + which + ")", real.guard(p, k, which), model.guard(p, k, which));
        } else {
            lookCall(kind, p, e);
        }
    }

    private void storeCall(int p, int x) {
        int v = below(8) == 0 ? anInt() : aWord();
        answers("store", "(" + p + ", " + x + ", " + v + ")", real.store(p, x, v), model.store(p, x, v));
    }

    private void createCall(int p) {
        int first = below(3) == 0 ? mostly(0, 15) : mostly(1, 7);
        int pages = below(2) == 0 ? mostly(1, 3) : mostly(1, 8);
        int entry = below(8) == 0 ? mostly(0, 255) : first * 16 + below(16);
        int shared = below(3) == 0 ? -1 : mostly(-1, 271);
        answers("create", "(" + p + ", " + first + ", " + pages + ", " + entry + ", " + shared + ")",
            real.create(p, first, pages, entry, shared), model.create(p, first, pages, entry, shared));
    }

    private void lookCall(int kind, int p, int e) {
        int k = mostly(0, 7);
        if (kind < 85) {
            int v = anInt();
            answers("give", "(" + p + ", " + k + ", " + v + ")", real.give(p, k, v) ? 1 : 0, model.give(p, k, v));
        } else if (kind < 87) {
            answers("register", "(" + p + ", " + k + ")", real.register(p, k), model.register(p, k));
        } else if (kind < 89) {
            answers("denied", "()", real.denied(), model.denied());
        } else if (kind < 91) {
            answers("state", "(" + e + ")", real.state(e), model.state(e));
        } else if (kind < 94) {
            answers("released", "(" + e + ")", real.released(e), model.released(e));
        } else if (kind < 95) {
            answers("measurement", "(" + e + ")", real.measurement(e), model.measurement(e));
        } else if (kind < 96) {
            int m = anInt();
            int d = anInt();
            int proof = below(2) == 0 ? Words.proofOf(key, m, d) : anInt();
            answers("verify", "(" + m + ", " + d + ", " + proof + ")", real.verify(m, d, proof) ? 1 : 0,
                model.verify(m, d, proof));
        } else if (kind < 98) {
            answers("running", "(" + p + ")", real.running(p), model.running(p));
        } else {
            int page = mostly(0, 15);
            answers("owner", "(" + page + ")", real.owner(page), model.owner(page));
        }
    }
}
