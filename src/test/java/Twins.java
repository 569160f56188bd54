import java.util.List;
import java.util.function.Supplier;
import java.util.function.ToIntFunction;

/**
 * Two banks of one past, of which the first is asked and the second is not: if the call changes nothing,
 * nothing that is asked later tells them apart.
 */
final class Twins {
    private final Checks c;
    private final Supplier<BlushBank> past;

    Twins(Checks c, Supplier<BlushBank> past) {
        this.c = c;
        this.past = past;
    }

    /** The call answers so, and all is as it was. */
    void still(String call, ToIntFunction<BlushBank> made, int want) {
        BlushBank asked = past.get();
        BlushBank other = past.get();
        c.due(call, made.applyAsInt(asked), want);
        c.due("fault() behind " + call, asked.fault(), other.fault());
        alike("behind " + call, asked, other);
    }

    /** The tape, refused, is empty then and has told nothing, as if all of it had been struck by end(0). */
    void emptied(String text, int want, int fault) {
        BlushBank asked = past.get();
        BlushBank other = past.get();
        asked.end(0);
        other.end(0);
        Checks.type(asked, text);
        c.due("text() of \"" + text + "\"", asked.text(), want);
        c.due("fault() of \"" + text + "\"", asked.fault(), fault);
        alike("behind text() of \"" + text + "\"", asked, other);
    }

    private void alike(String when, BlushBank asked, BlushBank other) {
        List<String> is = Portrait.of(asked);
        List<String> was = Portrait.of(other);
        c.holds(when + " there are " + is.size() + " rows, not " + was.size(), is.size() == was.size());
        for (int i = 0; i < Math.min(is.size(), was.size()); i++) {
            if (!is.get(i).equals(was.get(i))) {
                c.holds(when + ", " + is.get(i) + ", not " + was.get(i), false);
                return;
            }
        }
    }
}
