/** Counts the answers that are not the ones that are due, and ends the program by them. */
final class Check {
    interface Call {
        long answer();
    }

    interface CallOf {
        long answer(int[] arguments);
    }

    static final Class<?> ARGUMENT = IllegalArgumentException.class;
    static final Class<?> STATE = IllegalStateException.class;
    static final Class<?> INDEX = IndexOutOfBoundsException.class;
    static final Class<?> ELEMENT = java.util.NoSuchElementException.class;

    private static int asked = 0;
    private static int wrong = 0;

    private Check() {
    }

    static void due(String what, long want, long got) {
        asked++;
        if (got != want) {
            wrong++;
            System.out.println(what + ": answered " + got + ", due is " + want);
        }
    }

    static void due(String what, boolean want, boolean got) {
        due(what, want ? 1 : 0, got ? 1 : 0);
    }

    /**
     * The very class is asked for, and thrown by the class itself: the machine's own exceptions are classes
     * below these, and the library throws some of its own.
     */
    static void refused(String what, Class<?> want, Call call) {
        asked++;
        try {
            long got = call.answer();
            wrong++;
            System.out.println(what + ": answered " + got + ", due is " + want.getSimpleName());
        } catch (RuntimeException e) {
            if (e.getClass() != want || !thrownByTheClass(e)) {
                wrong++;
                System.out.println(what + ": threw " + e + ", due is " + want.getSimpleName());
            }
        }
    }

    static void refusedEach(String what, Class<?> want, int[][] rows, CallOf call) {
        for (int[] row : rows) {
            refused(what + java.util.Arrays.toString(row), want, () -> call.answer(row));
        }
    }

    static boolean thrownByTheClass(Throwable e) {
        return e.getStackTrace()[0].getClassName().startsWith("ExpenseDesk");
    }

    static void end(String test) {
        System.out.println(test + ": " + asked + " answers, " + wrong + " not as due");
        if (wrong > 0) {
            System.exit(1);
        }
    }
}
