/** Promises 11 to 20: asking. */
public final class AskingTest {
    private static final Due due = new Due();

    public static void main(String[] args) {
        promise11Count();
        promise12Setting();
        promise13Weight();
        promise14Speaker();
        promise14Confusions();
        promise15WordOf();
        promise16Hears();
        promise17Gesture();
        promise18Agreement();
        promise19Understanding();
        promise20Common();
        due.end();
    }

    private static void promise11Count() {
        GesturePidgin x = Due.village(3);
        due.is("count(-1)", x.count(-1), GesturePidgin.BAD_VALUE);
        due.is("count(7)", x.count(7), GesturePidgin.BAD_VALUE);
        x.teach(0, 0, 0, 99);
        x.teach(0, 5, 13, 1);
        x.teach(2, 3, 7, 20);
        due.is("count(6)", x.count(6), 120);
        x.teach(1, 0, 0, 1);
        x.meet(0, 1, 0);
        x.teach(1, 0, 0, 0);
        x.teach(1, 1, 0, 9);
        x.meet(0, 1, 0);
        x.setAge(2, 60);
        x.age(2);
        x.setSeed(77);
        int[] want = {3, 77, 2, 1, 1, 2};
        for (int what = 0; what < want.length; what++) {
            due.is("count(" + what + ")", x.count(what), want[what]);
        }
        x.go(2);
        due.is("count(0)", x.count(0), 2);
        due.is("count(6) without the leaver", x.count(6), 98 + 1 + 8 + 1);
    }

    private static void promise12Setting() {
        GesturePidgin x = new GesturePidgin();
        due.is("setting(-1)", x.setting(-1), GesturePidgin.NO_SUCH);
        due.is("setting(4)", x.setting(4), GesturePidgin.NO_SUCH);
        x.set(0, 9);
        x.set(1, 0);
        x.set(2, 5);
        x.set(3, 100);
        int[] want = {9, 0, 5, 100};
        for (int setting = 0; setting < 4; setting++) {
            due.is("setting(" + setting + ")", x.setting(setting), want[setting]);
        }
    }

    private static void promise13Weight() {
        GesturePidgin x = Due.village(2);
        x.teach(1, 5, 13, 42);
        due.is("weight(1, 5, 13)", x.weight(1, 5, 13), 42);
        due.is("weight(0, 5, 13)", x.weight(0, 5, 13), 0);
        due.is("weight(1, 4, 13)", x.weight(1, 4, 13), 0);
        due.is("weight(1, 5, 12)", x.weight(1, 5, 12), 0);
        due.is("weight(2, 0, 0)", x.weight(2, 0, 0), GesturePidgin.NO_SUCH);
        due.is("weight(-1, 0, 0)", x.weight(-1, 0, 0), GesturePidgin.NO_SUCH);
        due.is("weight(0, 6, 0)", x.weight(0, 6, 0), GesturePidgin.NO_SUCH);
        due.is("weight(0, -1, 0)", x.weight(0, -1, 0), GesturePidgin.NO_SUCH);
        due.is("weight(0, 0, 14)", x.weight(0, 0, 14), GesturePidgin.NO_SUCH);
        due.is("weight(0, 1, -1)", x.weight(0, 1, -1), GesturePidgin.NO_SUCH);
        x.go(1);
        due.is("weight of the leaver", x.weight(1, 5, 13), GesturePidgin.NO_SUCH);
    }

    private static void promise14Speaker() {
        GesturePidgin x = Due.village(2);
        due.is("speaker(2, 5)", x.speaker(2, 5), GesturePidgin.NO_SUCH);
        due.is("speaker(-1, 0)", x.speaker(-1, 0), GesturePidgin.NO_SUCH);
        due.is("speaker(8, 0)", x.speaker(8, 0), GesturePidgin.NO_SUCH);
        due.is("speaker(0, 5)", x.speaker(0, 5), GesturePidgin.BAD_VALUE);
        due.is("speaker(0, -1)", x.speaker(0, -1), GesturePidgin.BAD_VALUE);
        int[] ages = {0, 19, 20, 39, 40, 59, 60, 79, 80, 99};
        int[] learns = {4, 4, 3, 3, 2, 2, 1, 1, 1, 1};
        for (int i = 0; i < ages.length; i++) {
            x.setAge(0, ages[i]);
            due.is("age", x.speaker(0, 0), ages[i]);
            due.is("learns at " + ages[i], x.speaker(0, 1), learns[i]);
        }
        x.set(0, 9);
        due.is("learns at 99 of gain 9", x.speaker(0, 1), 5);
        x.teach(0, 0, 3, 1);
        x.teach(0, 0, 4, 1);
        x.teach(0, 5, 13, 99);
        due.is("meanings with a word", x.speaker(0, 2), 2);
        x.teach(1, 0, 3, 1);
        x.meet(0, 1, 0);
        x.meet(1, 0, 0);
        x.come();
        x.meet(0, 2, 5);
        due.is("meetings of 0", x.speaker(0, 4), 3);
        due.is("meetings of 1", x.speaker(1, 4), 2);
        due.is("meetings of 2", x.speaker(2, 4), 1);
    }

    private static void promise14Confusions() {
        GesturePidgin x = Due.village(2);
        due.is("no word is not the same word", x.speaker(0, 3), 0);
        x.teach(0, 0, 7, 5);
        due.is("one word", x.speaker(0, 3), 0);
        x.teach(0, 3, 7, 9);
        due.is("one pair", x.speaker(0, 3), 1);
        x.teach(0, 5, 7, 1);
        due.is("three pairs", x.speaker(0, 3), 3);
        x.teach(0, 1, 8, 1);
        x.teach(0, 2, 8, 1);
        due.is("and one of another word", x.speaker(0, 3), 4);
        x.teach(0, 4, 8, 1);
        due.is("and three of another word", x.speaker(0, 3), 6);
        x.teach(0, 4, 9, 2);
        due.is("only the word counts", x.speaker(0, 3), 4);
        due.is("the other speaker", x.speaker(1, 3), 0);
        for (int meaning = 0; meaning < 6; meaning++) {
            x.teach(1, meaning, 0, 1);
        }
        due.is("all the same", x.speaker(1, 3), 15);
    }

    private static void promise15WordOf() {
        GesturePidgin x = Due.village(1);
        due.is("no word", x.wordOf(0, 0), GesturePidgin.NONE);
        x.teach(0, 0, 13, 1);
        due.is("the only one", x.wordOf(0, 0), 13);
        x.teach(0, 0, 7, 5);
        due.is("the greatest", x.wordOf(0, 0), 7);
        x.teach(0, 0, 8, 5);
        due.is("of several the first", x.wordOf(0, 0), 7);
        x.teach(0, 0, 0, 5);
        due.is("of several the first", x.wordOf(0, 0), 0);
        due.is("another meaning", x.wordOf(0, 5), GesturePidgin.NONE);
        due.is("wordOf(1, 0)", x.wordOf(1, 0), GesturePidgin.NO_SUCH);
        due.is("wordOf(-1, 0)", x.wordOf(-1, 0), GesturePidgin.NO_SUCH);
        due.is("wordOf(0, 6)", x.wordOf(0, 6), GesturePidgin.NO_SUCH);
        due.is("wordOf(0, -1)", x.wordOf(0, -1), GesturePidgin.NO_SUCH);
    }

    private static void promise16Hears() {
        GesturePidgin x = Due.village(1);
        due.is("as nothing", x.hears(0, 0), GesturePidgin.NONE);
        x.teach(0, 5, 0, 1);
        due.is("the only one", x.hears(0, 0), 5);
        x.teach(0, 3, 0, 9);
        due.is("the greatest", x.hears(0, 0), 3);
        x.teach(0, 4, 0, 9);
        due.is("of several the lowest", x.hears(0, 0), 3);
        x.teach(0, 0, 0, 9);
        due.is("of several the lowest", x.hears(0, 0), 0);
        x.teach(0, 2, 1, 99);
        due.is("another word", x.hears(0, 1), 2);
        due.is("a word without weights", x.hears(0, 13), GesturePidgin.NONE);
        due.is("hears(1, 0)", x.hears(1, 0), GesturePidgin.NO_SUCH);
        due.is("hears(-1, 0)", x.hears(-1, 0), GesturePidgin.NO_SUCH);
        due.is("hears(0, 14)", x.hears(0, 14), GesturePidgin.NO_SUCH);
        due.is("hears(0, -1)", x.hears(0, -1), GesturePidgin.NO_SUCH);
    }

    private static void promise17Gesture() {
        GesturePidgin x = new GesturePidgin();
        String[] words = {"w", "n", "ww", "wn", "nw", "nn", "www", "wwn", "wnw", "wnn", "nww", "nwn", "nnw", "nnn"};
        for (int word = 0; word < words.length; word++) {
            for (int index = -2; index < 5; index++) {
                boolean there = index >= 0 && index < words[word].length();
                int want = there ? words[word].charAt(index) : GesturePidgin.NONE;
                due.is("gesture(" + word + ", " + index + ")", x.gesture(word, index), want);
            }
        }
        due.is("gesture(14, -1)", x.gesture(14, -1), GesturePidgin.NO_SUCH);
        due.is("gesture(-1, 0)", x.gesture(-1, 0), GesturePidgin.NO_SUCH);
        due.is("gesture(0, least)", x.gesture(0, Integer.MIN_VALUE), GesturePidgin.NONE);
        due.is("gesture(0, most)", x.gesture(0, Integer.MAX_VALUE), GesturePidgin.NONE);
    }

    private static void agreement(GesturePidgin x, int speaker, int other, int want) {
        for (int way = 0; way < 2; way++) {
            due.is("agreement(" + speaker + ", " + other + ", " + way + ")", x.agreement(speaker, other, way), want);
            due.is("agreement(" + other + ", " + speaker + ", " + way + ")", x.agreement(other, speaker, way), want);
        }
    }

    private static void promise18Agreement() {
        GesturePidgin x = Due.village(2);
        agreement(x, 0, 1, 0);
        agreement(x, 0, 0, 0);
        x.teach(0, 0, 0, 5);
        x.teach(0, 1, 0, 5);
        x.teach(0, 2, 13, 5);
        x.teach(0, 3, 4, 5);
        x.teach(1, 0, 0, 9);
        x.teach(1, 1, 0, 1);
        x.teach(1, 2, 12, 5);
        x.teach(1, 4, 4, 5);
        agreement(x, 0, 1, 2);
        agreement(x, 0, 0, 4);
        x.teach(1, 2, 13, 6);
        agreement(x, 0, 1, 3);
        due.is("agreement(2, 0, 2)", x.agreement(2, 0, 2), GesturePidgin.NO_SUCH);
        due.is("agreement(0, 2, 0)", x.agreement(0, 2, 0), GesturePidgin.NO_SUCH);
        due.is("agreement(-1, -1, 0)", x.agreement(-1, -1, 0), GesturePidgin.NO_SUCH);
        due.is("agreement(0, 1, 2)", x.agreement(0, 1, 2), GesturePidgin.BAD_VALUE);
        due.is("agreement(0, 1, -1)", x.agreement(0, 1, -1), GesturePidgin.BAD_VALUE);
    }

    private static void promise19Understanding() {
        GesturePidgin x = Due.village(2);
        due.is("no words", x.understanding(0, 1), 0);
        x.teach(0, 0, 0, 5);
        x.teach(0, 1, 0, 6);
        x.teach(0, 2, 9, 5);
        due.is("heard as nothing", x.understanding(0, 1), 0);
        due.is("by oneself", x.understanding(0, 0), 2);
        x.teach(1, 0, 0, 1);
        x.teach(1, 2, 9, 1);
        x.teach(1, 2, 8, 90);
        due.is("of 0 by 1", x.understanding(0, 1), 2);
        due.is("of 1 by 0", x.understanding(1, 0), 0);
        x.teach(1, 3, 9, 2);
        due.is("heard as another meaning", x.understanding(0, 1), 1);
        due.is("understanding(0, 2)", x.understanding(0, 2), GesturePidgin.NO_SUCH);
        due.is("understanding(2, 0)", x.understanding(2, 0), GesturePidgin.NO_SUCH);
        due.is("understanding(-1, 8)", x.understanding(-1, 8), GesturePidgin.NO_SUCH);
    }

    private static void promise20Common() {
        GesturePidgin x = Due.village(5);
        due.is("common(-1)", x.common(-1), GesturePidgin.NO_SUCH);
        due.is("common(6)", x.common(6), GesturePidgin.NO_SUCH);
        due.is("no word", x.common(5), GesturePidgin.NONE);
        x.teach(0, 5, 13, 1);
        due.is("the only one", x.common(5), 13);
        x.teach(1, 5, 7, 99);
        due.is("of several the first, whatever its weight", x.common(5), 7);
        x.teach(2, 5, 13, 1);
        due.is("the most common", x.common(5), 13);
        x.teach(3, 5, 7, 1);
        x.teach(3, 5, 8, 1);
        due.is("of several the first", x.common(5), 7);
        x.go(1);
        due.is("leavers do not count", x.common(5), 13);
        due.is("another meaning", x.common(0), GesturePidgin.NONE);
    }
}
