/** What the tests share: compares answers, tells those that are not as due, and ends with exit code 1 if there were any. */
final class Check {
    interface Call {
        long answer();
    }

    private static int wrong = 0;
    private static int count = 0;

    private Check() {
    }

    static void due(String call, long want, Call made) {
        told(call, Long.toString(want), outcome(made));
    }

    static void due(String call, boolean want, boolean got) {
        told(call, Boolean.toString(want), Boolean.toString(got));
    }

    static void illegalArgument(String call, Call made) {
        told(call, "throws.IllegalArgumentException", outcome(made));
    }

    static void illegalState(String call, Call made) {
        told(call, "throws.IllegalStateException", outcome(made));
    }

    /** What a call answered, or the exact class that it threw. */
    static String outcome(Call call) {
        try {
            return Long.toString(call.answer());
        } catch (RuntimeException e) {
            return "throws." + e.getClass().getSimpleName();
        }
    }

    static void told(String call, String want, String got) {
        count++;
        if (!want.equals(got)) {
            wrong++;
            if (wrong <= 50) {
                System.out.println(call + " answered " + got + ", due is " + want);
            }
        }
    }

    static void end() {
        System.out.println(wrong == 0 ? count + " answers are as due" : wrong + " of " + count + " answers are not as due");
        if (wrong != 0) {
            System.exit(1);
        }
    }
}
