/** Counts answers that are as due and prints those that are not. */
final class Check {
    interface Call {
        long answer();
    }

    private int right = 0;
    private int wrong = 0;

    void due(String call, long want, long got) {
        judge(call, String.valueOf(want), String.valueOf(got));
    }

    void isTrue(String what, boolean holds) {
        judge(what, "true", String.valueOf(holds));
    }

    void refuses(String call, Class<? extends RuntimeException> kind, Call tried) {
        judge(call, "throws." + kind.getSimpleName(), outcome(tried));
    }

    void same(String call, Call want, Call tried) {
        judge(call, outcome(want), outcome(tried));
    }

    void end() {
        System.out.println(right + " answers are as due, " + wrong + " are not");
        if (wrong != 0 || right == 0) {
            System.exit(1);
        }
    }

    private static String outcome(Call tried) {
        try {
            return String.valueOf(tried.answer());
        } catch (RuntimeException e) {
            return "throws." + e.getClass().getSimpleName();
        }
    }

    private void judge(String call, String want, String got) {
        if (want.equals(got)) {
            right++;
        } else {
            wrong++;
            System.out.println(call + " answered " + got + ", due is " + want);
        }
    }
}
