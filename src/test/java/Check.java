/** What the tests share: compares answers, tells those that are not as due, and ends with exit code 1 if there were any. */
final class Check {
    interface Call {
        long answer();
    }

    private static int wrong = 0;
    private static int made = 0;

    private Check() {
    }

    static void due(String call, long want, Call call1) {
        told(call, Long.toString(want), outcome(call1));
    }

    static void due(String call, boolean want, boolean got) {
        told(call, Boolean.toString(want), Boolean.toString(got));
    }

    static void illegalArgument(String call, Call call1) {
        told(call, "throws.IllegalArgumentException", outcome(call1));
    }

    static void illegalState(String call, Call call1) {
        told(call, "throws.IllegalStateException", outcome(call1));
    }

    /** What a call answered, or the exact class that it threw. */
    static String outcome(Call call) {
        try {
            return Long.toString(call.answer());
        } catch (RuntimeException e) {
            return "throws." + e.getClass().getSimpleName();
        }
    }

    static void told(String call, String want, String got) {
        made++;
        if (!want.equals(got)) {
            wrong++;
            if (wrong <= 50) {
                System.out.println(call + " answered " + got + ", due is " + want);
            }
        }
    }

    static void end() {
        System.out.println(wrong == 0 ? made + " answers are as due" : wrong + " of " + made + " answers are not as due");
        if (wrong != 0) {
            System.exit(1);
        }
    }
}
