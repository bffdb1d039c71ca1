/** Compares answers with those that are due, tells the wrong ones, and ends with exit code 1 if there were any. */
final class Check {
    /** A call of the face; a boolean answer counts 1 or 0. */
    interface Call {
        long answer();
    }

    private static final long MOST_MILLISECONDS = 300_000;

    private final String test;
    private int right;
    private int wrong;

    Check(String test) {
        this.test = test;
        Thread watch = new Thread(this::endTheEndless);
        watch.setDaemon(true);
        watch.start();
    }

    /** A call that does not end must fail its test, not hang the run; no test needs a tenth of this time. */
    private void endTheEndless() {
        try {
            Thread.sleep(MOST_MILLISECONDS);
        } catch (InterruptedException woken) {
            return;
        }
        System.out.println(test + ": a call does not end");
        Runtime.getRuntime().halt(1);
    }

    void due(String call, long got, long want) {
        if (got == want) {
            right++;
        } else {
            tell(call, Long.toString(got), Long.toString(want));
        }
    }

    void due(String call, boolean got, boolean want) {
        due(call, got ? 1L : 0L, want ? 1L : 0L);
    }

    void due(String call, String got, String want) {
        if (got.equals(want)) {
            right++;
        } else {
            tell(call, got, want);
        }
    }

    /** The very class is due: a subclass of it would be what the machine throws. */
    void fails(String call, Class<? extends RuntimeException> want, Call made) {
        due(call, answerOf(made), "throws." + want.getSimpleName());
    }

    static String answerOf(Call made) {
        try {
            return Long.toString(made.answer());
        } catch (RuntimeException thrown) {
            return nameOf(thrown);
        }
    }

    /** A division by 0 that the machine refuses has the due class, but not a text of the program. */
    static String nameOf(Throwable thrown) {
        String by = "/ by zero".equals(thrown.getMessage()) ? "machine." : "throws.";
        return by + thrown.getClass().getSimpleName();
    }

    private void tell(String call, String got, String want) {
        wrong++;
        System.out.println(test + ": " + call + " answered " + got + ", due is " + want);
    }

    void end() {
        System.out.println(test + ": " + right + " answers as due, " + wrong + " not");
        if (wrong > 0) {
            System.exit(1);
        }
    }
}
