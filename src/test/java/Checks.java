/** Counts the answers that are not as due; a test ends with exit code 1 if there was one. */
final class Checks {
    /** A call that may throw. */
    interface Call {
        void make();
    }

    private static int made = 0;
    private static int wrong = 0;

    private Checks() {
    }

    static void same(String what, long got, long due) {
        made++;
        if (got != due) {
            wrong++;
            System.out.println(what + ": answered " + got + ", due is " + due);
        }
    }

    static void same(String what, String got, String due) {
        made++;
        if (!got.equals(due)) {
            wrong++;
            System.out.println(what + ":\n  answered " + got + "\n  due is   " + due);
        }
    }

    static void refusesArgument(String what, Call call) {
        refuses(what, IllegalArgumentException.class, call);
    }

    static void refusesIndex(String what, Call call) {
        refuses(what, IndexOutOfBoundsException.class, call);
    }

    private static void refuses(String what, Class<? extends RuntimeException> due, Call call) {
        String got = "nothing";
        try {
            call.make();
        } catch (RuntimeException e) {
            got = e.getClass().getName();
        }
        same(what + " throws", got, due.getName());
    }

    static void end() {
        System.out.println(made - wrong + " of " + made + " checks are as due");
        if (wrong != 0) {
            System.exit(1);
        }
    }
}
