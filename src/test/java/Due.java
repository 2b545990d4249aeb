/** Counts what is not as it is due, and ends a test with exit code 1 if there was anything. */
final class Due {
    interface Call {
        long answer();
    }

    private int wrong;
    private int looked;

    void is(String call, long got, long want) {
        looked++;
        if (got != want) {
            wrong++;
            System.out.println(call + " answered " + got + ", due is " + want);
        }
    }

    void is(String call, boolean got, boolean want) {
        is(call, got ? 1 : 0, want ? 1 : 0);
    }

    void fails(String call, Class<? extends RuntimeException> due, Call made) {
        looked++;
        try {
            long got = made.answer();
            wrong++;
            System.out.println(call + " answered " + got + ", due is " + due.getSimpleName());
        } catch (RuntimeException e) {
            if (e.getClass() != due) {
                wrong++;
                System.out.println(call + " threw " + e + ", due is " + due.getSimpleName());
            }
        }
    }

    void end() {
        System.out.println(looked - wrong + " of " + looked + " answers are as due");
        if (wrong > 0 || looked == 0) {
            System.exit(1);
        }
    }
}
