/** Counts what holds and what does not, and prints what does not. */
final class Check {
    static final Class<? extends RuntimeException> INDEX = IndexOutOfBoundsException.class;
    static final Class<? extends RuntimeException> ARGUMENT = IllegalArgumentException.class;
    static final Class<? extends RuntimeException> STATE = IllegalStateException.class;

    private static int passed = 0;
    private static int failed = 0;
    private static String part = "";

    private Check() {
    }

    /** A call whose answer or exception is looked at. */
    interface Call {
        void run();
    }

    static void part(String name) {
        part = name;
    }

    static void isTrue(String what, boolean holds) {
        if (holds) {
            passed++;
        } else {
            failed++;
            System.out.println(part + ": " + what);
        }
    }

    static void same(String what, long got, long due) {
        isTrue(what + " answered " + got + ", due is " + due, got == due);
    }

    static void same(String what, boolean got, boolean due) {
        isTrue(what + " answered " + got + ", due is " + due, got == due);
    }

    static void fails(String what, Class<? extends RuntimeException> due, Call call) {
        String got = "nothing";
        try {
            call.run();
        } catch (RuntimeException thrown) {
            got = thrown.getClass().getSimpleName();
        }
        isTrue(what + " threw " + got + ", due is " + due.getSimpleName(), got.equals(due.getSimpleName()));
    }

    static int passed() {
        return passed;
    }

    static int failed() {
        return failed;
    }
}
