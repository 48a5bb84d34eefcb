import java.util.LinkedHashMap;
import java.util.Map;

/** Counts the answers that are not the ones that are due, sentence by sentence, and ends the test by them. */
final class Due {
    private final Map<String, Integer> looked = new LinkedHashMap<>();
    private String sentence = "";
    private int wrong;

    /** The sentence of the document that the answers from here on are due by. */
    void sentence(String words) {
        sentence = words;
        looked.putIfAbsent(words, 0);
    }

    void is(String call, long got, long want) {
        looked.merge(sentence, 1, Integer::sum);
        if (got != want) {
            wrong++;
            System.out.println(call + " answered " + got + ", due is " + want + " by \"" + sentence + "\"");
        }
    }

    void is(String call, boolean got, boolean want) {
        is(call, got ? 1L : 0L, want ? 1L : 0L);
    }

    void holds(String what, boolean holds) {
        is(what, holds, true);
    }

    boolean anyWrong() {
        return wrong != 0;
    }

    void finish() {
        int answers = 0;
        for (Map.Entry<String, Integer> one : looked.entrySet()) {
            answers += one.getValue();
            // A test that looks at nothing must not pass.
            if (one.getValue() == 0) {
                wrong++;
                System.out.println("nothing was looked at for \"" + one.getKey() + "\"");
            }
        }
        System.out.println(answers + " answers for " + looked.size() + " sentences, " + wrong + " wrong");
        if (wrong != 0 || answers == 0) {
            System.exit(1);
        }
    }
}
