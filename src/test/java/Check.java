/** Counts the calls whose answer is not the one that is due, and prints each of them. */
final class Check {
    interface Call {
        int answer();
    }

    private final String subject;
    private int wrong = 0;
    private int done = 0;

    Check(String subject) {
        this.subject = subject;
    }

    void due(int promise, String what, int want, Call call) {
        dueText(promise, what, Integer.toString(want), told(call));
    }

    void thrown(int promise, String what, Class<? extends RuntimeException> want, Call call) {
        dueText(promise, what, "throws." + want.getSimpleName(), told(call));
    }

    void dueText(int promise, String what, String want, String got) {
        dueText("promise " + promise, what, want, got);
    }

    void dueText(String asker, String what, String want, String got) {
        done++;
        if (!want.equals(got)) {
            wrong++;
            System.out.println(asker + ": " + what + " answered " + got + ", due is " + want);
        }
    }

    /** A call's answer as a text, or the name of exactly the class that it throws. */
    static String told(Call call) {
        try {
            return Integer.toString(call.answer());
        } catch (RuntimeException e) {
            return "throws." + e.getClass().getSimpleName();
        }
    }

    void end() {
        System.out.println(subject + ": " + done + " answers, " + wrong + " not as due");
        if (wrong != 0 || done == 0) {
            System.exit(1);
        }
    }
}
