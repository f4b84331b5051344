/** Compares answers with those that are due, and ends a test. */
final class Due {
    private static int checked;
    private static int wrong;

    private Due() {
    }

    static void is(String call, long got, long want) {
        checked++;
        if (got != want) {
            wrong++;
            System.out.println(call + " answered " + got + ", due is " + want);
        }
    }

    static void holds(String what, boolean answer) {
        checked++;
        if (!answer) {
            wrong++;
            System.out.println("does not hold: " + what);
        }
    }

    /** For the last line of a test: exit code 1 if an answer was wrong. */
    static void end() {
        System.out.println(checked + " checked, " + wrong + " wrong");
        if (wrong != 0 || checked == 0) {
            System.exit(1);
        }
    }
}
