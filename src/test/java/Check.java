/** Counts and prints the answers that are not as due; a test's main ends with end(). */
final class Check {
    private static int done = 0;
    private static int wrong = 0;
    private static String heading = "";

    private Check() {
    }

    /** What stands ahead of each answer that is printed from now on. */
    static void headWith(String text) {
        heading = text;
    }

    static int done() {
        return done;
    }

    static int wrong() {
        return wrong;
    }

    static void same(String what, long got, long due) {
        done++;
        if (got != due) {
            wrong++;
            System.out.println(heading + what + " answered " + got + ", due is " + due);
        }
    }

    static void same(String what, boolean got, boolean due) {
        same(what, got ? 1 : 0, due ? 1 : 0);
    }

    static void same(String what, String got, String due) {
        done++;
        if (!got.equals(due)) {
            wrong++;
            System.out.println(heading + what + " answered\n  " + got + "\ndue is\n  " + due);
        }
    }

    static void end() {
        System.out.println(done + " answers, " + wrong + " not as due");
        if (wrong != 0 || done == 0) {
            System.exit(1);
        }
    }
}
