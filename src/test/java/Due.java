/** Counts what is not as it is due, and ends a test with exit code 1 if there was anything. */
final class Due {
    interface Call {
        long answer();
    }

    private int wrong;
    private int looked;
    private int sentences;
    private String sentence = "";

    /** What is looked at from here on is what this sentence of the document says. */
    void sentence(String words) {
        sentences++;
        sentence = "\"" + words + "\": ";
    }

    private void look(boolean isRight, String call, Object got, Object want) {
        looked++;
        if (!isRight) {
            wrong++;
            System.out.println(sentence + call + " answered " + got + ", due is " + want);
        }
    }

    void is(String call, long got, long want) {
        // Most answers are right, and texts for all of them would take long.
        if (got == want) {
            looked++;
        } else {
            look(false, call, got, want);
        }
    }

    void is(String call, boolean got, boolean want) {
        is(call, got ? 1 : 0, want ? 1 : 0);
    }

    void is(String call, String got, String want) {
        look(got.equals(want), call, got, want);
    }

    void fails(String call, Class<? extends RuntimeException> due, Call made) {
        try {
            look(false, call, made.answer(), due.getSimpleName());
        } catch (RuntimeException e) {
            look(e.getClass() == due, call, e, due.getSimpleName());
        }
    }

    void end() {
        String told = looked - wrong + " of " + looked + " answers are as due";
        System.out.println(sentences == 0 ? told : told + ", in " + sentences + " sentences");
        if (wrong > 0 || looked == 0) {
            System.exit(1);
        }
    }
}
