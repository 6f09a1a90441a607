/**
 * What the tests share: compares answers, tells those that are not as due, and ends with exit code 1 if there were any.
 * A test names the document's sentence that it is about before it asks; a sentence without an answer is a fault too.
 */
final class Check {
    interface Call {
        long answer();
    }

    private static int wrong = 0;
    private static int count = 0;
    private static int sentences = 0;
    private static int countBefore = 0;
    private static String words = "";

    private Check() {
    }

    static void sentence(String next) {
        demandAnswers();
        words = next;
        countBefore = count;
        sentences++;
    }

    static void due(String call, long want, Call made) {
        told(call, Long.toString(want), outcome(made));
    }

    static void due(String call, boolean want, boolean got) {
        told(call, Boolean.toString(want), Boolean.toString(got));
    }

    static void illegalArgument(String call, Call made) {
        told(call, "throws.IllegalArgumentException", outcome(made));
    }

    static void illegalState(String call, Call made) {
        told(call, "throws.IllegalStateException", outcome(made));
    }

    /** What a call answered, or the exact class that it threw. */
    static String outcome(Call call) {
        try {
            return Long.toString(call.answer());
        } catch (RuntimeException e) {
            return "throws." + e.getClass().getSimpleName();
        }
    }

    static void told(String call, String want, String got) {
        count++;
        if (!want.equals(got)) {
            fault(call + " answered " + got + ", due is " + want);
        }
    }

    static void end() {
        demandAnswers();
        String all = count + " answers" + (sentences == 0 ? "" : " to " + sentences + " sentences");
        System.out.println(wrong == 0 ? all + " are as due" : wrong + " faults in " + all);
        if (wrong != 0) {
            System.exit(1);
        }
    }

    private static void demandAnswers() {
        if (!words.isEmpty() && count == countBefore) {
            fault("nothing was asked");
        }
    }

    private static void fault(String text) {
        wrong++;
        if (wrong <= 50) {
            System.out.println((words.isEmpty() ? "" : "\"" + words + "\": ") + text);
        }
    }
}
