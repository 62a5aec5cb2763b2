import java.util.function.Supplier;
import java.util.function.ToIntFunction;

/** Collects the calls whose answer is not the one that is due. */
final class Due {
    private final String sentence;
    private int asked = 0;
    private int wrong = 0;

    Due() {
        this("");
    }

    /** For one sentence of the document: it is told with each wrong answer. */
    Due(String sentence) {
        this.sentence = sentence;
    }

    void is(String call, long got, long want) {
        asked++;
        if (got != want) {
            wrong++;
            System.out.println(sentence + call + " answered " + got + ", due is " + want);
        }
    }

    void holds(String what, boolean so) {
        asked++;
        if (!so) {
            wrong++;
            System.out.println(sentence + "this doesn't hold: " + what);
        }
    }

    /** Checks that a call which is refused leaves the state and the saved states as they were. */
    void refused(GesturePidgin x, String call, java.util.function.IntSupplier refusal, int want) {
        long before = x.digest();
        is(call, refusal.getAsInt(), want);
        is("digest() after " + call, x.digest(), before);
    }

    /** Checks that a call answers this code, and that then all that can be seen of the village is as it was. */
    void refuses(Supplier<GesturePidgin> made, String call, ToIntFunction<GesturePidgin> refusal, int code) {
        is(call, refusal.applyAsInt(made.get()), code);
        leavesAll(made, call, refusal);
    }

    void leavesAll(Supplier<GesturePidgin> made, String call, ToIntFunction<GesturePidgin> look) {
        holds(call + " changes nothing", Look.at(made).equals(Look.at(Look.after(made, look))));
    }

    /** Checks that a call changes the village, and that then one undo() and no more brings all of it back. */
    void undoes(Supplier<GesturePidgin> made, String call, ToIntFunction<GesturePidgin> change) {
        Supplier<GesturePidgin> changed = Look.after(made, change);
        int saved = undoAll(made.get());
        holds("there is room for a state", saved < 6);
        holds(call + " changes something", !Look.at(made).equals(Look.at(changed)));
        is("undo() after " + call, changed.get().undo(), saved);
        holds("undo() of " + call + " brings all back",
            Look.at(made).equals(Look.at(Look.after(changed, GesturePidgin::undo))));
    }

    int asked() {
        return asked;
    }

    int wrong() {
        return wrong;
    }

    void end() {
        System.out.println(asked + " answers, " + wrong + " not as due");
        if (wrong != 0 || asked == 0) {
            System.exit(1);
        }
    }

    /** A new village with so many speakers. */
    static GesturePidgin village(int speakers) {
        GesturePidgin x = new GesturePidgin();
        for (int i = 0; i < speakers; i++) {
            x.come();
        }
        return x;
    }

    static void typeText(GesturePidgin x, String text) {
        for (char c : text.toCharArray()) {
            x.type(c);
        }
    }

    /** How many states are saved; they are gone after it. */
    static int undoAll(GesturePidgin x) {
        int undone = 0;
        while (x.undo() >= 0) {
            undone++;
        }
        return undone;
    }
}
