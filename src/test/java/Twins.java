import java.util.LinkedHashMap;
import java.util.Map;
import java.util.function.Consumer;
import java.util.function.ToLongFunction;

/**
 * Two machines of the same past, of which one gets a call that must be refused: behind it the two must answer alike,
 * and go on alike, so that what nobody sees (an enclave's registers, PC and words) is looked at too.
 */
final class Twins {
    private final Due due;
    private final Consumer<EnclaveGuards> past;

    Twins(Due due, Consumer<EnclaveGuards> past) {
        this.due = due;
        this.past = past;
    }

    void refuse(String call, long answer, ToLongFunction<EnclaveGuards> refused) {
        EnclaveGuards called = new EnclaveGuards(Scene.KEY);
        EnclaveGuards spared = new EnclaveGuards(Scene.KEY);
        past.accept(called);
        past.accept(spared);
        due.is(call, refused.applyAsLong(called), answer);
        same(call, answersOf(called), answersOf(spared));
        same(call, goOn(called), goOn(spared));
    }

    void refuse(String call, boolean answer, ToLongFunction<EnclaveGuards> refused) {
        refuse(call, answer ? 1 : 0, refused);
    }

    private void same(String call, Map<String, Long> called, Map<String, Long> spared) {
        for (Map.Entry<String, Long> one : spared.entrySet()) {
            due.is(one.getKey() + " behind the refused " + call, called.get(one.getKey()), one.getValue());
        }
    }

    private static Map<String, Long> answersOf(EnclaveGuards x) {
        Map<String, Long> seen = new LinkedHashMap<>();
        seen.put("denied()", (long) x.denied());
        for (int p = 0; p < 2; p++) {
            seen.put("running(" + p + ")", (long) x.running(p));
            for (int k = 0; k < 8; k++) {
                seen.put("register(" + p + ", " + k + ")", x.register(p, k));
            }
            for (int k = 0; k < 11; k++) {
                for (int which = 0; which < 3; which++) {
                    seen.put("guard(" + p + ", " + k + ", " + which + ")", (long) x.guard(p, k, which));
                }
            }
        }
        for (int e = 0; e < 4; e++) {
            seen.put("state(" + e + ")", (long) x.state(e));
            seen.put("released(" + e + ")", x.released(e));
            seen.put("measurement(" + e + ")", x.measurement(e));
        }
        for (int page = 0; page < 16; page++) {
            seen.put("owner(" + page + ")", (long) x.owner(page));
        }
        return seen;
    }

    private static Map<String, Long> goOn(EnclaveGuards x) {
        Map<String, Long> seen = new LinkedHashMap<>();
        for (int p = 0; p < 2; p++) {
            seen.put("interrupt(" + p + ")", (long) x.interrupt(p));
        }
        for (int e = 0; e < 4; e++) {
            seen.put("run(0, " + e + ", 9)", (long) x.run(0, e, 9));
            seen.put("guard(0, 9, 0) of " + e, (long) x.guard(0, 9, 0));
            seen.put("guard(0, 9, 2) of " + e, (long) x.guard(0, 9, 2));
            seen.put("step(0, 100) of " + e, (long) x.step(0, 100));
            seen.put("run(0, " + e + ", 8)", (long) x.run(0, e, 8));
            seen.put("step(0, 100) of " + e + " again", (long) x.step(0, 100));
            seen.put("released(" + e + ") in the end", x.released(e));
            seen.put("destroy(1, " + e + ")", (long) x.destroy(1, e));
        }
        for (int address = 16; address < 256; address++) {
            seen.put("load(0, " + address + ")", x.load(0, address));
        }
        for (int k = 0; k < 8; k++) {
            seen.put("register(0, " + k + ") in the end", x.register(0, k));
            seen.put("register(1, " + k + ") in the end", x.register(1, k));
        }
        seen.put("denied() in the end", (long) x.denied());
        return seen;
    }
}
