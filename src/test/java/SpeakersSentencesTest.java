import java.util.function.Supplier;

/** A test for each sentence of promises 1 to 7: a new village, speakers and settings. */
public final class SpeakersSentencesTest {
    private static final int NO_SUCH = GesturePidgin.NO_SUCH;
    private static final int BAD_VALUE = GesturePidgin.BAD_VALUE;
    private static final int LEAST = Integer.MIN_VALUE;
    private static final int MOST = Integer.MAX_VALUE;
    /** Numbers of no speaker in the village Look.rich(). */
    private static final int[] NOBODY = {-1, 2, 4, 7, 8, LEAST, MOST};

    private static final Sentences doc = new Sentences("Promise 1", "Promise 2", "Promise 3", "Promise 4",
        "Promise 5", "Promise 6", "Promise 7");

    public static void main(String[] args) {
        promise1VillageWithoutSpeakers();
        promise2LetsASpeakerCome();
        promise2Undoable();
        promise2Limit();
        promise3LetsASpeakerGo();
        promise3Undoable();
        promise3NumbersOfSpeakers();
        promise3NumberLeft();
        promise3NoSuch();
        promise4ChangesASetting();
        promise4Undoable();
        promise4Settings();
        promise4Previous();
        promise4NoSuch();
        promise4BadValue();
        promise5ChangesTheSeed();
        promise5Undoable();
        promise5Seeds();
        promise5Previous();
        promise5BadValue();
        promise6GivesAWeight();
        promise6Undoable();
        promise6Speakers();
        promise6Meanings();
        promise6Words();
        promise6Weights();
        promise6Previous();
        promise6NoSuch();
        promise6BadValue();
        promise7ChangesTheAge();
        promise7Undoable();
        promise7Speakers();
        promise7Ages();
        promise7Previous();
        promise7NoSuch();
        promise7BadValue();
        doc.end();
    }

    private static void promise1VillageWithoutSpeakers() {
        Due due = doc.promise(1, "Creates a village without speakers");
        GesturePidgin x = new GesturePidgin();
        due.is("count(0)", x.count(0), 0);
        for (int speaker = -1; speaker < 9; speaker++) {
            due.is("speaker(" + speaker + ", 0)", x.speaker(speaker, 0), NO_SUCH);
        }
        for (int what = 2; what < 7; what++) {
            due.is("count(" + what + ")", x.count(what), 0);
        }
        due.is("no state is saved", x.undo(), GesturePidgin.NOT_POSSIBLE);
        due.is("the first one who comes", x.come(), 0);
        due.is("another village has its own speakers", new GesturePidgin().count(0), 0);
    }

    private static void promise2LetsASpeakerCome() {
        Due due = doc.promise(2, "Lets a new speaker come", "Returns the number of the speaker");
        GesturePidgin x = new GesturePidgin();
        for (int number = 0; number < 8; number++) {
            due.is("nobody is there before", x.speaker(number, 0), NO_SUCH);
            due.is("come()", x.come(), number);
            due.is("somebody is there", x.speaker(number, 0), 0);
            due.is("count(0)", x.count(0), number + 1);
        }
        x.go(7);
        due.is("the last number again", x.come(), 7);
        x.go(0);
        due.is("the first number again", x.come(), 0);
    }

    private static void promise2Undoable() {
        Due due = doc.promise(2, "Undoable");
        due.undoes(Look::rich, "come()", GesturePidgin::come);
        due.undoes(GesturePidgin::new, "the first come()", GesturePidgin::come);
    }

    private static void promise2Limit() {
        Due due = doc.promise(2, "LIMIT if there are 8");
        due.refuses(Look::full, "come() to 8", GesturePidgin::come, GesturePidgin.LIMIT);
        GesturePidgin x = Due.village(7);
        due.is("come() to 7", x.come(), 7);
        due.is("come() to 8", x.come(), GesturePidgin.LIMIT);
        due.is("come() to 8 again", x.come(), GesturePidgin.LIMIT);
        x.go(4);
        due.is("come() to 7 of 8", x.come(), 4);
        x.undo();
        x.undo();
        due.is("come() to 8 after undo()", x.come(), GesturePidgin.LIMIT);
    }

    private static void promise3LetsASpeakerGo() {
        Due due = doc.promise(3, "Lets a speaker go");
        GesturePidgin x = Due.village(8);
        x.teach(0, 0, 0, 9);
        x.teach(7, 5, 13, 5);
        x.go(7);
        due.is("the leaver", x.speaker(7, 0), NO_SUCH);
        due.is("count(0)", x.count(0), 7);
        due.is("the weights that are left", x.count(6), 9);
        due.is("the others stay", x.weight(0, 0, 0), 9);
        x.go(0);
        due.is("the leaver", x.speaker(0, 0), NO_SUCH);
        due.is("the others keep their numbers", x.speaker(1, 0), 0);
        due.is("no weights are left", x.count(6), 0);
    }

    private static void promise3Undoable() {
        Due due = doc.promise(3, "Undoable");
        due.undoes(Look::rich, "go(0)", x -> x.go(0));
        due.undoes(Look::rich, "go(3)", x -> x.go(3));
        due.undoes(() -> Due.village(1), "go() of the last one", x -> x.go(0));
    }

    private static void promise3NumbersOfSpeakers() {
        Due due = doc.promise(3, "`speaker`: number of the speaker");
        for (int speaker = 0; speaker < 8; speaker++) {
            GesturePidgin x = Look.full();
            due.is("go(" + speaker + ")", x.go(speaker), 7);
            for (int other = 0; other < 8; other++) {
                due.is("the age of " + other, x.speaker(other, 0), other == speaker ? NO_SUCH : 0);
            }
        }
    }

    private static void promise3NumberLeft() {
        Due due = doc.promise(3, "Returns the number of speakers that are left");
        GesturePidgin x = Due.village(8);
        for (int left = 7; left >= 0; left--) {
            due.is("go()", x.go(left), left);
        }
        due.is("count(0)", x.count(0), 0);
    }

    private static void promise3NoSuch() {
        Due due = doc.promise(3, "NO_SUCH if there is no such speaker");
        for (int nobody : NOBODY) {
            due.refuses(Look::rich, "go(" + nobody + ")", x -> x.go(nobody), NO_SUCH);
        }
        due.refuses(GesturePidgin::new, "go(0) of an empty village", x -> x.go(0), NO_SUCH);
        due.refuses(Look::full, "go(8)", x -> x.go(8), NO_SUCH);
        GesturePidgin y = Due.village(1);
        y.go(0);
        due.is("go(0) once more", y.go(0), NO_SUCH);
    }

    private static void promise4ChangesASetting() {
        Due due = doc.promise(4, "Changes a setting", "`value`: the new value");
        int[] initial = {4, 1, 60, 50};
        for (int setting = 0; setting < 4; setting++) {
            GesturePidgin x = new GesturePidgin();
            x.set(setting, 8);
            for (int other = 0; other < 4; other++) {
                due.is("setting(" + other + ")", x.setting(other), other == setting ? 8 : initial[other]);
            }
        }
    }

    private static void promise4Undoable() {
        Due due = doc.promise(4, "Undoable");
        for (int i = 0; i < 4; i++) {
            int setting = i;
            due.undoes(Look::rich, "set(" + i + ", 8)", x -> x.set(setting, 8));
        }
    }

    private static void promise4Settings() {
        Due due = doc.promise(4, "`setting`: 0 to 3");
        due.is("set(0, 9)", new GesturePidgin().set(0, 9), 4);
        due.is("set(1, 9)", new GesturePidgin().set(1, 9), 1);
        due.is("set(2, 9)", new GesturePidgin().set(2, 9), 60);
        due.is("set(3, 9)", new GesturePidgin().set(3, 9), 50);
    }

    private static void promise4Previous() {
        Due due = doc.promise(4, "Returns the previous value");
        GesturePidgin x = new GesturePidgin();
        due.is("set(1, 0)", x.set(1, 0), 1);
        due.is("set(1, 0) again", x.set(1, 0), 0);
        due.is("set(1, 9)", x.set(1, 9), 0);
        due.is("set(1, 10)", x.set(1, 10), BAD_VALUE);
        due.is("set(1, 3)", x.set(1, 3), 9);
        x.undo();
        due.is("set(1, 4) after undo()", x.set(1, 4), 9);
    }

    private static void promise4NoSuch() {
        Due due = doc.promise(4, "NO_SUCH if there is no such setting");
        int[] settings = {-1, 4, LEAST, MOST};
        for (int setting : settings) {
            due.refuses(Look::rich, "set(" + setting + ", 8)", x -> x.set(setting, 8), NO_SUCH);
        }
    }

    private static void promise4BadValue() {
        Due due = doc.promise(4, "BAD_VALUE if value is out of its range");
        int[] least = {1, 0, 5, 0};
        int[] most = {9, 9, 99, 100};
        for (int i = 0; i < 4; i++) {
            int setting = i;
            int[] values = {least[i] - 1, most[i] + 1, LEAST, MOST};
            for (int value : values) {
                due.refuses(Look::rich, "set(" + i + ", " + value + ")", x -> x.set(setting, value), BAD_VALUE);
            }
            GesturePidgin y = new GesturePidgin();
            y.set(i, least[i]);
            due.is("the least is in range", y.setting(i), least[i]);
            y.set(i, most[i]);
            due.is("the greatest is in range", y.setting(i), most[i]);
        }
    }

    private static void promise5ChangesTheSeed() {
        Due due = doc.promise(5, "Changes the seed");
        GesturePidgin x = Due.village(2);
        x.setSeed(4711);
        due.is("count(1)", x.count(1), 4711);
        x.teach(0, 0, 0, 1);
        x.meet(0, 1, 0);
        due.is("the next draw begins with it", x.count(1), Chance.after(4711));
    }

    private static void promise5Undoable() {
        Due due = doc.promise(5, "Undoable");
        due.undoes(Look::rich, "setSeed(0)", x -> x.setSeed(0));
        due.undoes(Look::rich, "setSeed(65535)", x -> x.setSeed(65535));
    }

    private static void promise5Seeds() {
        Due due = doc.promise(5, "`seed`: 0 to 65535");
        int[] seeds = {0, 1, 15, 16, 32767, 32768, 65534, 65535};
        for (int seed : seeds) {
            GesturePidgin x = new GesturePidgin();
            due.is("setSeed(" + seed + ")", x.setSeed(seed), 1);
            due.is("count(1)", x.count(1), seed);
        }
    }

    private static void promise5Previous() {
        Due due = doc.promise(5, "Returns the previous seed");
        GesturePidgin x = new GesturePidgin();
        due.is("setSeed(0)", x.setSeed(0), 1);
        due.is("setSeed(65535)", x.setSeed(65535), 0);
        due.is("setSeed(65535) again", x.setSeed(65535), 65535);
        due.is("setSeed(65536)", x.setSeed(65536), BAD_VALUE);
        due.is("setSeed(5)", x.setSeed(5), 65535);
    }

    private static void promise5BadValue() {
        Due due = doc.promise(5, "BAD_VALUE if seed is out of range");
        int[] seeds = {-1, 65536, 65537, -65536, LEAST, MOST};
        for (int seed : seeds) {
            due.refuses(Look::rich, "setSeed(" + seed + ")", x -> x.setSeed(seed), BAD_VALUE);
        }
    }

    private static void promise6GivesAWeight() {
        Due due = doc.promise(6, "Gives a speaker a weight");
        GesturePidgin x = Due.village(2);
        x.teach(1, 3, 7, 42);
        due.is("the weight", x.weight(1, 3, 7), 42);
        due.is("no other weight", x.count(6), 42);
        x.teach(1, 3, 7, 5);
        due.is("it isn't added", x.weight(1, 3, 7), 5);
        x.teach(1, 3, 7, 0);
        due.is("it may be taken away", x.count(6), 0);
    }

    private static void promise6Undoable() {
        Due due = doc.promise(6, "Undoable");
        due.undoes(Look::rich, "teach(0, 0, 0, 99)", x -> x.teach(0, 0, 0, 99));
        due.undoes(Look::rich, "teach(3, 5, 13, 98)", x -> x.teach(3, 5, 13, 98));
    }

    private static void promise6Speakers() {
        Due due = doc.promise(6, "`speaker`: number of the speaker");
        GesturePidgin x = Due.village(8);
        for (int speaker = 0; speaker < 8; speaker++) {
            due.is("teach()", x.teach(speaker, 0, 0, 90 + speaker), 0);
        }
        for (int speaker = 0; speaker < 8; speaker++) {
            due.is("weight()", x.weight(speaker, 0, 0), 90 + speaker);
        }
    }

    private static void promise6Meanings() {
        Due due = doc.promise(6, "`meaning`: 0 to 5");
        GesturePidgin x = Due.village(1);
        for (int meaning = 0; meaning < 6; meaning++) {
            due.is("teach()", x.teach(0, meaning, 13, 10 + meaning), 0);
        }
        for (int meaning = 0; meaning < 6; meaning++) {
            due.is("weight()", x.weight(0, meaning, 13), 10 + meaning);
        }
    }

    private static void promise6Words() {
        Due due = doc.promise(6, "`word`: 0 to 13");
        GesturePidgin x = Due.village(1);
        for (int word = 0; word < 14; word++) {
            due.is("teach()", x.teach(0, 5, word, 10 + word), 0);
        }
        for (int word = 0; word < 14; word++) {
            due.is("weight()", x.weight(0, 5, word), 10 + word);
        }
    }

    private static void promise6Weights() {
        Due due = doc.promise(6, "`weight`: 0 to 99");
        GesturePidgin x = Due.village(1);
        for (int weight = 0; weight < 100; weight++) {
            due.is("teach()", x.teach(0, 2, 6, weight), Math.max(0, weight - 1));
            due.is("weight()", x.weight(0, 2, 6), weight);
        }
    }

    private static void promise6Previous() {
        Due due = doc.promise(6, "Returns the previous weight");
        GesturePidgin x = Due.village(1);
        due.is("of a new speaker", x.teach(0, 0, 0, 99), 0);
        due.is("the greatest", x.teach(0, 0, 0, 99), 99);
        due.is("the same again", x.teach(0, 0, 0, 1), 99);
        due.is("another word", x.teach(0, 0, 1, 5), 0);
        due.is("refused", x.teach(0, 0, 0, 100), BAD_VALUE);
        due.is("after the refusal", x.teach(0, 0, 0, 0), 1);
    }

    private static void promise6NoSuch() {
        Due due = doc.promise(6, "NO_SUCH if there is no such speaker, meaning or word");
        for (int nobody : NOBODY) {
            due.refuses(Look::rich, "teach(" + nobody + ", 0, 0, 1)", x -> x.teach(nobody, 0, 0, 1), NO_SUCH);
        }
        int[] meanings = {-1, 6, LEAST, MOST};
        for (int meaning : meanings) {
            due.refuses(Look::rich, "teach(0, " + meaning + ", 0, 1)", x -> x.teach(0, meaning, 0, 1), NO_SUCH);
            due.is("meaning " + meaning + ", the last word", Look.rich().teach(0, meaning, 13, 1), NO_SUCH);
        }
        int[] words = {-1, 14, LEAST, MOST};
        for (int word : words) {
            due.refuses(Look::rich, "teach(0, 0, " + word + ", 1)", x -> x.teach(0, 0, word, 1), NO_SUCH);
            due.is("word " + word + ", the last meaning", Look.rich().teach(0, 5, word, 1), NO_SUCH);
        }
    }

    private static void promise6BadValue() {
        Due due = doc.promise(6, "BAD_VALUE if weight is out of range");
        int[] weights = {-1, 100, LEAST, MOST};
        for (int weight : weights) {
            due.refuses(Look::rich, "teach(0, 0, 0, " + weight + ")", x -> x.teach(0, 0, 0, weight), BAD_VALUE);
        }
    }

    private static void promise7ChangesTheAge() {
        Due due = doc.promise(7, "Changes the age of a speaker");
        GesturePidgin x = Due.village(2);
        x.setAge(1, 42);
        due.is("the age", x.speaker(1, 0), 42);
        due.is("what the speaker learns", x.speaker(1, 1), 2);
        due.is("the other one's age", x.speaker(0, 0), 0);
        due.is("no year passes", x.count(5), 0);
    }

    private static void promise7Undoable() {
        Due due = doc.promise(7, "Undoable");
        due.undoes(Look::rich, "setAge(0, 99)", x -> x.setAge(0, 99));
        due.undoes(Look::rich, "setAge(3, 0)", x -> x.setAge(3, 0));
    }

    private static void promise7Speakers() {
        Due due = doc.promise(7, "`speaker`: number of the speaker");
        GesturePidgin x = Due.village(8);
        for (int speaker = 0; speaker < 8; speaker++) {
            due.is("setAge()", x.setAge(speaker, 90 + speaker), 0);
        }
        for (int speaker = 0; speaker < 8; speaker++) {
            due.is("the age of " + speaker, x.speaker(speaker, 0), 90 + speaker);
        }
    }

    private static void promise7Ages() {
        Due due = doc.promise(7, "`age`: 0 to 99");
        GesturePidgin x = Due.village(1);
        x.set(2, 5);
        int[] ages = {99, 0, 5, 6, 60, 61, 98};
        for (int age : ages) {
            due.holds("setAge(0, " + age + ") is no error", x.setAge(0, age) >= 0);
            due.is("the age, also above the life", x.speaker(0, 0), age);
        }
        due.is("no child is born by it", x.count(4), 0);
    }

    private static void promise7Previous() {
        Due due = doc.promise(7, "Returns the previous age");
        GesturePidgin x = Due.village(1);
        due.is("setAge(0, 99)", x.setAge(0, 99), 0);
        due.is("setAge(0, 99) again", x.setAge(0, 99), 99);
        due.is("setAge(0, 100)", x.setAge(0, 100), BAD_VALUE);
        due.is("setAge(0, 0)", x.setAge(0, 0), 99);
        x.age(7);
        due.is("setAge(0, 5)", x.setAge(0, 5), 7);
    }

    private static void promise7NoSuch() {
        Due due = doc.promise(7, "NO_SUCH if there is no such speaker");
        for (int nobody : NOBODY) {
            due.refuses(Look::rich, "setAge(" + nobody + ", 1)", x -> x.setAge(nobody, 1), NO_SUCH);
        }
        Supplier<GesturePidgin> empty = GesturePidgin::new;
        due.refuses(empty, "setAge(0, 1) in an empty village", x -> x.setAge(0, 1), NO_SUCH);
    }

    private static void promise7BadValue() {
        Due due = doc.promise(7, "BAD_VALUE if age is out of range");
        int[] ages = {-1, 100, LEAST, MOST};
        for (int age : ages) {
            due.refuses(Look::rich, "setAge(0, " + age + ")", x -> x.setAge(0, age), BAD_VALUE);
        }
    }
}
