import java.util.ArrayList;
import java.util.List;
import java.util.function.Supplier;
import java.util.function.ToIntFunction;

/**
 * All that can be seen of a village. To see it takes more than the 512 calls that one object is used for, so the
 * village is made anew for each side from which it is looked at.
 */
final class Look {
    private Look() {
    }

    static List<Long> at(Supplier<GesturePidgin> made) {
        List<Long> seen = new ArrayList<>();
        seeNumbers(made.get(), seen);
        for (int speaker = 0; speaker < 8; speaker++) {
            seeSpeaker(made.get(), speaker, seen);
        }
        seeText(made.get(), seen);
        seeSavedStates(made.get(), seen);
        return seen;
    }

    static Supplier<GesturePidgin> after(Supplier<GesturePidgin> made, ToIntFunction<GesturePidgin> call) {
        return () -> {
            GesturePidgin x = made.get();
            call.applyAsInt(x);
            return x;
        };
    }

    private static void seeNumbers(GesturePidgin x, List<Long> seen) {
        seen.add(x.digest());
        for (int what = 0; what < 7; what++) {
            seen.add((long) x.count(what));
        }
        for (int setting = 0; setting < 4; setting++) {
            seen.add((long) x.setting(setting));
        }
    }

    private static void seeSpeaker(GesturePidgin x, int speaker, List<Long> seen) {
        for (int what = 0; what < 5; what++) {
            seen.add((long) x.speaker(speaker, what));
        }
        for (int meaning = 0; meaning < 6; meaning++) {
            for (int word = 0; word < 14; word++) {
                seen.add((long) x.weight(speaker, meaning, word));
            }
        }
    }

    private static void seeText(GesturePidgin x, List<Long> seen) {
        seen.add((long) x.syntaxError());
        seen.add((long) x.learn());
        seen.add(x.digest());
        seen.add((long) x.clearText());
    }

    private static void seeSavedStates(GesturePidgin x, List<Long> seen) {
        int left = 0;
        while (left >= 0) {
            left = x.undo();
            seen.add((long) left);
            seen.add(x.digest());
        }
    }

    /** Speakers 0, 1 and 3 with habits, ages, meetings and a child, a text of two habits, and three saved states. */
    static GesturePidgin rich() {
        GesturePidgin x = Due.village(4);
        x.go(2);
        x.set(1, 2);
        x.teach(0, 0, 0, 50);
        x.teach(0, 5, 13, 40);
        x.teach(1, 0, 0, 30);
        x.teach(3, 2, 7, 20);
        x.setAge(1, 60);
        x.setAge(3, 20);
        x.setSeed(4711);
        x.chat(20);
        x.age(2);
        x.meet(0, 3, 4);
        makeRoomForStates(x);
        Due.typeText(x, "0.0=w*7;1.5=nnn*99");
        return x;
    }

    /** A village of 8 speakers with a text of 80 characters, a habit list, and three saved states. */
    static GesturePidgin full() {
        GesturePidgin x = Due.village(8);
        makeRoomForStates(x);
        Due.typeText(x, "0.0=w*1;".repeat(9) + "0.0=ww*1");
        return x;
    }

    /** Leaves three of six saved states, so that one more would be seen. */
    private static void makeRoomForStates(GesturePidgin x) {
        for (int seed = 0; seed < 3; seed++) {
            x.setSeed(seed);
        }
        for (int undone = 0; undone < 3; undone++) {
            x.undo();
        }
    }
}
