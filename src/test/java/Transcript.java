import java.util.ArrayList;
import java.util.List;
import java.util.function.IntSupplier;

/** Calls and what they answered, one behind the other, to be held against those of another time. */
final class Transcript {
    private final List<String> lines = new ArrayList<>();

    /** Notes the answer, or the exception, and tells whether there was an answer. */
    boolean note(String call, IntSupplier answer) {
        try {
            lines.add(call + " answered " + answer.getAsInt());
            return true;
        } catch (RuntimeException thrown) {
            lines.add(call + " threw " + thrown.getClass().getSimpleName());
            return false;
        }
    }

    /** Checks that the same was answered to the same calls. */
    void isLike(Transcript due, String when) {
        for (int i = 0; i < Math.min(lines.size(), due.lines.size()); i++) {
            if (!lines.get(i).equals(due.lines.get(i))) {
                Check.isTrue(when + ": " + lines.get(i) + ", due is: " + due.lines.get(i), false);
                return;
            }
        }
        Check.same(when + ": the calls that were noted", lines.size(), due.lines.size());
    }
}
