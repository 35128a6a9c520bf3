/** Counts checks and prints those whose answer is not the one that is due. */
final class Check {
    /** A call of the class under test. */
    interface Call {
        double answer();
    }

    private static int made = 0;
    private static int wrong = 0;

    private Check() {
    }

    static void same(String what, double got, double due) {
        made++;
        if (got != due) {
            wrong++;
            System.out.println(what + " answered " + got + ", due is " + due);
        }
    }

    static void same(String what, String got, String due) {
        made++;
        if (!got.equals(due)) {
            wrong++;
            System.out.println(what + " answered " + got + ", due is " + due);
        }
    }

    /** Checks that a call throws just this exception, not one of a class below it. */
    static void refused(String what, Class<? extends RuntimeException> due, Call call) {
        same(what, outcome(call), due.getSimpleName());
    }

    /** Tells the answer of a call, or the name of the exception that it throws. */
    static String outcome(Call call) {
        try {
            return String.valueOf(call.answer());
        } catch (RuntimeException e) {
            return e.getClass().getSimpleName();
        }
    }

    static void finish(String name) {
        System.out.println(name + ": " + made + " checks, " + wrong + " wrong");
        if (wrong != 0 || made == 0) {
            System.exit(1);
        }
    }
}
