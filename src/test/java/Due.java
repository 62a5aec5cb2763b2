/** Collects the calls whose answer is not the one that is due. */
final class Due {
    private int asked = 0;
    private int wrong = 0;

    void is(String call, long got, long want) {
        asked++;
        if (got != want) {
            wrong++;
            System.out.println(call + " answered " + got + ", due is " + want);
        }
    }

    /** Checks that a call which is refused leaves the state and the saved states as they were. */
    void refused(GesturePidgin x, String call, java.util.function.IntSupplier refusal, int want) {
        long before = x.digest();
        is(call, refusal.getAsInt(), want);
        is("digest() after " + call, x.digest(), before);
    }

    void end() {
        System.out.println(asked + " answers, " + wrong + " not as due");
        if (wrong != 0 || asked == 0) {
            System.exit(1);
        }
    }

    /** A new village with so many speakers. */
    static GesturePidgin village(int speakers) {
        GesturePidgin x = new GesturePidgin();
        for (int i = 0; i < speakers; i++) {
            x.come();
        }
        return x;
    }

    static void typeText(GesturePidgin x, String text) {
        for (char c : text.toCharArray()) {
            x.type(c);
        }
    }

    /** How many states are saved; they are gone after it. */
    static int undoAll(GesturePidgin x) {
        int undone = 0;
        while (x.undo() >= 0) {
            undone++;
        }
        return undone;
    }
}
