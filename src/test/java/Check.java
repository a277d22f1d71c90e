/** Counts answers that are as due and prints those that are not. */
final class Check {
    interface Call {
        long answer();
    }

    private static final int MOST_LINES = 200;

    private int right = 0;
    private int wrong = 0;

    void due(String call, long want, long got) {
        text(call, String.valueOf(want), String.valueOf(got));
    }

    void isTrue(String what, boolean holds) {
        text(what, "true", String.valueOf(holds));
    }

    void refuses(String call, Class<? extends RuntimeException> kind, Call tried) {
        text(call, "throws." + kind.getSimpleName(), outcome(tried));
    }

    void text(String call, String want, String got) {
        if (want.equals(got)) {
            right++;
        } else {
            wrong++;
            if (wrong <= MOST_LINES) {
                System.out.println(call + " answered " + got + ", due is " + want);
            }
        }
    }

    void end() {
        System.out.println(right + " answers are as due, " + wrong + " are not");
        if (wrong != 0 || right == 0) {
            System.exit(1);
        }
    }

    private static String outcome(Call tried) {
        try {
            return String.valueOf(tried.answer());
        } catch (RuntimeException e) {
            return "throws." + e.getClass().getSimpleName();
        }
    }
}
