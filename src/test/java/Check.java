/** Counts the answers of one test class, prints the wrong ones and ends the run. */
final class Check {
    interface Call {
        long answer();
    }

    private int right = 0;
    private int wrong = 0;

    void due(String what, long got, long want) {
        count(got == want, what + " answered " + got + ", due is " + want);
    }

    void due(String what, boolean got, boolean want) {
        count(got == want, what + " answered " + got + ", due is " + want);
    }

    void due(String what, String got, String want) {
        count(got.equals(want), what + " answered " + got + ", due is " + want);
    }

    /** The exception must be of this very class: its subclasses are what the machine throws. */
    void dueThrow(String what, Class<? extends RuntimeException> want, Call call) {
        due(what, outcome(call), "throws." + want.getSimpleName());
    }

    static String outcome(Call call) {
        try {
            return String.valueOf(call.answer());
        } catch (RuntimeException e) {
            return "throws." + e.getClass().getSimpleName();
        }
    }

    static long asLong(boolean answer) {
        return answer ? 1 : 0;
    }

    void end(String name) {
        System.out.println(name + ": " + right + " answers right, " + wrong + " wrong");
        if (wrong > 0) {
            System.exit(1);
        }
    }

    private void count(boolean isRight, String complaint) {
        if (isRight) {
            right++;
        } else {
            wrong++;
            System.out.println(complaint);
        }
    }
}
