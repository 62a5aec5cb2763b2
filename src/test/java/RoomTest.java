import com.sun.management.ThreadMXBean;
import java.lang.management.ManagementFactory;
import java.util.function.Supplier;
import java.util.function.ToLongFunction;

/**
 * All calls of one run live in one room of some 600,000 objects and 7.3 million fields and elements: looked at is how
 * many bytes the calls of each kind take, as many of them as one village can be asked.
 */
public final class RoomTest {
    /** Two calls each, behind the hundred that make the village: not more than 512. */
    private static final int ROUNDS = 200;
    /** What this part of 512 rounds may take, if most of the room's elements are an int. */
    private static final long MOST_BYTES = 4L * 7_300_000 * ROUNDS / 512;

    private static final ThreadMXBean threads = (ThreadMXBean) ManagementFactory.getThreadMXBean();
    private static final Due due = new Due();

    public static void main(String[] args) {
        look("new villages", GesturePidgin::new, x -> new GesturePidgin().count(0));
        look("come() and go()", () -> Due.village(7), x -> x.come() == 7 ? x.go(0) : x.come());
        look("set()", Look::full, x -> x.set(0, 9));
        look("setSeed()", Look::full, x -> x.setSeed(9));
        look("teach()", Look::full, x -> x.teach(7, 5, 13, 99));
        look("setAge()", Look::full, x -> x.setAge(7, 99));
        look("meet()", Look::full, x -> x.meet(0, 7, 5));
        look("chat()", Look::full, x -> x.chat(200));
        look("age()", Look::full, x -> x.age(99));
        look("count()", Look::full, x -> x.count(6));
        look("setting()", Look::full, x -> x.setting(3));
        look("weight()", Look::full, x -> x.weight(7, 5, 13));
        look("speaker()", Look::full, x -> x.speaker(7, 3));
        look("wordOf()", Look::full, x -> x.wordOf(7, 5));
        look("hears()", Look::full, x -> x.hears(7, 13));
        look("gesture()", Look::full, x -> x.gesture(13, 2));
        look("agreement() by meanings", Look::full, x -> x.agreement(0, 7, 0));
        look("agreement() by words", Look::full, x -> x.agreement(0, 7, 1));
        look("understanding()", Look::full, x -> x.understanding(0, 7));
        look("common()", Look::full, x -> x.common(5));
        look("ifMet()", Look::full, x -> x.ifMet(0, 7, 5, 3));
        look("ifChat()", Look::full, x -> x.ifChat(200));
        look("bestSayer()", Look::full, x -> x.bestSayer(7));
        look("type()", Look::full, x -> x.type('0') == 80 ? x.clearText() : 0);
        look("syntaxError()", Look::full, GesturePidgin::syntaxError);
        look("learn(), refused but for the first time", Look::full, GesturePidgin::learn);
        look("undo()", Look::full, x -> x.setSeed(1) + x.undo());
        look("digest()", Look::full, GesturePidgin::digest);
        due.end();
    }

    private static void look(String call, Supplier<GesturePidgin> made, ToLongFunction<GesturePidgin> done) {
        long before = threads.getCurrentThreadAllocatedBytes();
        GesturePidgin x = made.get();
        for (int round = 0; round < ROUNDS; round++) {
            done.applyAsLong(x);
        }
        long bytes = threads.getCurrentThreadAllocatedBytes() - before;
        due.holds(call + " has room, here " + bytes + " bytes", bytes < MOST_BYTES);
    }
}
