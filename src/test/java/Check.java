import java.util.Collections;
import java.util.Map;
import java.util.TreeMap;

/** Counts the answers of one test class, prints the wrong ones and ends the run. */
final class Check {
    interface Call {
        long answer();
    }

    private final Map<String, Integer> answersUnder = new TreeMap<>();
    private String sentence = "";
    private int right = 0;
    private int wrong = 0;

    /** The sentence of the document to which the answers from here on are due; promise 0 is what stands ahead of 1. */
    void under(int promise, String words) {
        sentence = "Promise " + promise + ": " + words;
        answersUnder.putIfAbsent(sentence, 0);
    }

    void underNone() {
        sentence = "";
    }

    /** How many answers were looked at under each sentence. */
    Map<String, Integer> answersUnder() {
        return Collections.unmodifiableMap(answersUnder);
    }

    void due(String what, long got, long want) {
        count(got == want, what + " answered " + got + ", due is " + want);
    }

    void due(String what, boolean got, boolean want) {
        count(got == want, what + " answered " + got + ", due is " + want);
    }

    void due(String what, String got, String want) {
        count(got.equals(want), what + " answered " + got + ", due is " + want);
    }

    /** The exception must be of this very class: its subclasses are what the machine throws. */
    void dueThrow(String what, Class<? extends RuntimeException> want, Call call) {
        due(what, outcome(call), "throws." + want.getSimpleName());
    }

    static String outcome(Call call) {
        try {
            return String.valueOf(call.answer());
        } catch (RuntimeException e) {
            return "throws." + e.getClass().getSimpleName();
        }
    }

    static long asLong(boolean answer) {
        return answer ? 1 : 0;
    }

    void end(String name) {
        System.out.println(name + ": " + right + " answers right, " + wrong + " wrong");
        if (wrong > 0) {
            System.exit(1);
        }
    }

    private void count(boolean isRight, String complaint) {
        answersUnder.computeIfPresent(sentence, (words, answers) -> answers + 1);
        if (isRight) {
            right++;
        } else {
            wrong++;
            System.out.println(sentence.isEmpty() ? complaint : "[" + sentence + "] " + complaint);
        }
    }
}
