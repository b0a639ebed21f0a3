/** Counts the answers that are not as due; a test ends with exit code 1 if there was one. */
final class Checks {
    /** A call that may throw. */
    interface Call {
        void make();
    }

    private static String sentence = "";
    private static int made = 0;
    private static int wrong = 0;

    private Checks() {
    }

    /** Tells which words of the document the checks that follow are about. */
    static void sentence(String words) {
        sentence = words + " | ";
    }

    static void same(String what, long got, long due) {
        made++;
        if (got != due) {
            wrong(what + ": answered " + got + ", due is " + due);
        }
    }

    static void same(String what, String got, String due) {
        made++;
        if (!got.equals(due)) {
            wrong(what + ":\n  answered " + got + "\n  due is   " + due);
        }
    }

    static void refusesArgument(String what, Call call) {
        refuses(what, IllegalArgumentException.class, call);
    }

    static void refusesIndex(String what, Call call) {
        refuses(what, IndexOutOfBoundsException.class, call);
    }

    private static void refuses(String what, Class<? extends RuntimeException> due, Call call) {
        String got = "nothing";
        try {
            call.make();
        } catch (RuntimeException e) {
            got = e.getClass().getName();
        }
        same(what + " throws", got, due.getName());
    }

    private static void wrong(String line) {
        wrong++;
        System.out.println(sentence + line);
    }

    static void end() {
        System.out.println(made - wrong + " of " + made + " checks are as due");
        if (wrong != 0) {
            System.exit(1);
        }
    }
}
