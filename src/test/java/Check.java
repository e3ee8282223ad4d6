/** Counts answers that are not as due, and ends a test with exit code 1 if there was one. */
final class Check {
    private static int wrong = 0;
    private static int looked = 0;

    private Check() {
    }

    static void same(String call, long got, long due) {
        looked++;
        if (got != due) {
            wrong++;
            System.out.println(call + " answered " + got + ", due is " + due);
        }
    }

    static void holds(String claim, boolean isSo) {
        same(claim, isSo ? 1 : 0, 1);
    }

    /** The exception must be of this very class: no other may reach the caller. */
    static void fails(String call, Class<? extends RuntimeException> due, Runnable action) {
        looked++;
        Class<?> got = null;
        try {
            action.run();
        } catch (RuntimeException e) {
            got = e.getClass();
        }
        if (got != due) {
            wrong++;
            System.out.println(call + " threw " + got + ", due is " + due);
        }
    }

    static void end() {
        System.out.println(looked + " answers looked at, " + wrong + " not as due");
        System.exit(wrong == 0 ? 0 : 1);
    }
}
