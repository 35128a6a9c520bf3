/** Counts checks and prints those whose answer is not the one that is due. */
final class Check {
    /** A call of the class under test. */
    interface Call {
        double answer();
    }

    private static int made = 0;
    private static int wrong = 0;
    private static String subject = "";

    private Check() {
    }

    /** Puts a text before what is printed of the checks that follow. */
    static void about(String text) {
        subject = text;
    }

    static int made() {
        return made;
    }

    static void same(String what, double got, double due) {
        count(what, got == due, String.valueOf(got), String.valueOf(due));
    }

    static void same(String what, String got, String due) {
        count(what, got.equals(due), got, due);
    }

    static void holds(String what, boolean got) {
        count(what, got, "false", "true");
    }

    /** Checks that a call throws just this exception, not one of a class below it. */
    static void refused(String what, Class<? extends RuntimeException> due, Call call) {
        same(what, outcome(call), due.getSimpleName());
    }

    /** Tells the answer of a call, or the name of the exception that it throws. */
    static String outcome(Call call) {
        try {
            return String.valueOf(call.answer());
        } catch (RuntimeException e) {
            return e.getClass().getSimpleName();
        }
    }

    static void finish(String name) {
        System.out.println(name + ": " + made + " checks, " + wrong + " wrong");
        if (wrong != 0 || made == 0) {
            System.exit(1);
        }
    }

    private static void count(String what, boolean right, String got, String due) {
        made++;
        if (!right) {
            wrong++;
            System.out.println(subject + what + " answered " + got + ", due is " + due);
        }
    }
}
