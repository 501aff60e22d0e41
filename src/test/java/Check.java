/** Counts what holds and what does not, and prints what does not. */
final class Check {
    static final Class<? extends RuntimeException> INDEX = IndexOutOfBoundsException.class;
    static final Class<? extends RuntimeException> ARGUMENT = IllegalArgumentException.class;
    static final Class<? extends RuntimeException> STATE = IllegalStateException.class;

    /** Two sentences of the document that hold for every call that throws. */
    static final String CHANGES_NOTHING = "A call that throws an exception changes nothing.";
    static final String FIRST_NAMED = "If several apply, the one that the throws clause names first is thrown.";

    private static int passed = 0;
    private static int failed = 0;
    private static int sentences = 0;
    private static String part = "";

    private Check() {
    }

    /** A call whose answer or exception is looked at. */
    interface Call {
        void run();
    }

    static void part(String name) {
        part = name;
    }

    /** A test of its own for a sentence of the document; what fails in it is told with the promise and the sentence. */
    static void sentence(int promise, String sentence, Call test) {
        part("promise " + promise + ", \"" + sentence + "\"");
        int before = passed + failed;
        try {
            test.run();
        } catch (RuntimeException thrown) {
            isTrue("the test ended with " + thrown, false);
        }
        isTrue("the test looks at nothing", passed + failed > before);
        sentences++;
    }

    static void isTrue(String what, boolean holds) {
        if (holds) {
            passed++;
        } else {
            failed++;
            System.out.println(part + ": " + what);
        }
    }

    static void same(String what, long got, long due) {
        isTrue(what + " answered " + got + ", due is " + due, got == due);
    }

    static void same(String what, boolean got, boolean due) {
        isTrue(what + " answered " + got + ", due is " + due, got == due);
    }

    static void fails(String what, Class<? extends RuntimeException> due, Call call) {
        String got = "nothing";
        try {
            call.run();
        } catch (RuntimeException thrown) {
            got = thrown.getClass().getSimpleName();
        }
        isTrue(what + " threw " + got + ", due is " + due.getSimpleName(), got.equals(due.getSimpleName()));
    }

    /** The first numbers that are not allowed on both sides, and the last ones that there are. */
    static int[] outside(int least, int most) {
        return new int[] {least - 1, most + 1, Integer.MIN_VALUE, Integer.MAX_VALUE};
    }

    static int passed() {
        return passed;
    }

    static int failed() {
        return failed;
    }

    static int sentences() {
        return sentences;
    }
}
