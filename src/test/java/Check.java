/** Counts the answers that are not the ones that are due; a test ends with end(). */
final class Check {
    interface Call {
        long run();
    }

    private static int wrong = 0;

    private Check() {}

    static void due(String what, long got, long want) {
        if (got != want) {
            report(what + " answered " + got + ", due is " + want);
        }
    }

    static void answers(String what, long want, Call call) {
        String got = outcome(call);
        if (!got.equals(Long.toString(want))) {
            report(what + " gave " + got + ", due is " + want);
        }
    }

    static void refuses(String what, Class<? extends RuntimeException> want, Call call) {
        String got = outcome(call);
        if (!got.equals(want.getName())) {
            report(what + " gave " + got + ", due is " + want.getName());
        }
    }

    /** Both calls give the same, be it an answer or an exception, which is told to the caller. */
    static String same(String what, Call got, Call want) {
        String gave = outcome(got);
        String due = outcome(want);
        if (!gave.equals(due)) {
            report(what + " gave " + gave + ", due is " + due);
        }
        return due;
    }

    static void holds(String what, boolean so) {
        if (!so) {
            report(what + " does not hold");
        }
    }

    static void end() {
        if (wrong != 0) {
            System.out.println(wrong + " answers are not as due");
            System.exit(1);
        }
    }

    private static String outcome(Call call) {
        try {
            return Long.toString(call.run());
        } catch (RuntimeException e) {
            return e.getClass().getName();
        }
    }

    private static void report(String text) {
        wrong++;
        System.out.println(text);
    }
}
