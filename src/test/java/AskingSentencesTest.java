/** A test for each sentence of promises 11 to 20: asking. */
public final class AskingSentencesTest {
    private static final int NO_SUCH = GesturePidgin.NO_SUCH;
    private static final int BAD_VALUE = GesturePidgin.BAD_VALUE;
    private static final int NONE = GesturePidgin.NONE;
    private static final int LEAST = Integer.MIN_VALUE;
    private static final int MOST = Integer.MAX_VALUE;
    /** Numbers of no speaker in the village Look.rich(). */
    private static final int[] NOBODY = {-1, 2, 4, 7, 8, LEAST, MOST};
    private static final int[] NO_MEANING = {-1, 6, LEAST, MOST};
    private static final int[] NO_WORD = {-1, 14, LEAST, MOST};
    private static final String[] WORDS =
        {"w", "n", "ww", "wn", "nw", "nn", "www", "wwn", "wnw", "wnn", "nww", "nwn", "nnw", "nnn"};

    private static final Sentences doc = new Sentences("Promise 11", "Promise 12", "Promise 13", "Promise 14",
        "Promise 15", "Promise 16", "Promise 17", "Promise 18", "Promise 19", "Promise 20");

    public static void main(String[] args) {
        count();
        promise12ASetting();
        promise12NoSuch();
        promise13AWeight();
        promise13NoSuch();
        speaker();
        promise15TheWord();
        promise15NoSuch();
        promise15None();
        promise16TheMeaning();
        promise16NoSuch();
        promise16None();
        promise17AGesture();
        promise17FirstGesture();
        promise17WinkAndNod();
        promise17NoSuch();
        promise17None();
        agreement();
        promise19Understanding();
        promise19TheSame();
        promise19NoSuch();
        common();
        doc.end();
    }

    private static void count() {
        promise11Speakers();
        promise11Seed();
        promise11Meetings();
        promise11Successes();
        promise11Children();
        promise11Years();
        promise11Weights();
        promise11BadValue();
    }

    private static void promise11Speakers() {
        Due due = doc.promise(11, "Returns a number of the village", "0 for the number of speakers", "Returns the "
            + "number");
        GesturePidgin x = new GesturePidgin();
        due.is("nobody", x.count(0), 0);
        for (int speakers = 1; speakers <= 8; speakers++) {
            x.come();
            due.is("count(0)", x.count(0), speakers);
        }
        x.come();
        due.is("count(0) after one too many", x.count(0), 8);
        x.go(0);
        due.is("count(0) after go(0)", x.count(0), 7);
    }

    private static void promise11Seed() {
        Due due = doc.promise(11, "1 for the seed");
        GesturePidgin x = Due.village(2);
        due.is("initially", x.count(1), 1);
        x.setSeed(0);
        due.is("the least", x.count(1), 0);
        x.setSeed(65535);
        due.is("the greatest", x.count(1), 65535);
        x.setSeed(Chance.before(65535));
        x.teach(0, 0, 0, 50);
        x.meet(0, 1, 0);
        due.is("the greatest, drawn", x.count(1), 65535);
        x.setSeed(Chance.before(0));
        x.go(1);
        x.come();
        x.meet(0, 1, 0);
        due.is("the least, drawn", x.count(1), 0);
    }

    private static void promise11Meetings() {
        Due due = doc.promise(11, "2 for the number of meetings so far");
        GesturePidgin x = Due.village(2);
        due.is("none", x.count(2), 0);
        x.meet(0, 1, 0);
        due.is("one", x.count(2), 1);
        x.chat(200);
        due.is("by chance, too", x.count(2), 201);
        x.ifMet(0, 1, 0, 0);
        x.ifChat(200);
        due.is("forecasts aren't meetings", x.count(2), 201);
        x.meet(0, 0, 0);
        due.is("nor are refused ones", x.count(2), 201);
        x.go(0);
        x.go(1);
        due.is("also those of the leavers", x.count(2), 201);
    }

    private static void promise11Successes() {
        Due due = doc.promise(11, "3 for the number of those that succeeded");
        GesturePidgin x = Due.village(2);
        due.is("none", x.count(3), 0);
        x.teach(0, 0, 0, 9);
        x.teach(1, 1, 0, 1);
        x.meet(0, 1, 0);
        due.is("a failure", x.count(3), 0);
        x.meet(0, 1, 0);
        due.is("a success", x.count(3), 1);
        x.ifMet(0, 1, 0, 2);
        due.is("a forecast", x.count(3), 1);
        due.is("meetings", x.count(2), 2);
    }

    private static void promise11Children() {
        Due due = doc.promise(11, "4 for the number of children so far");
        GesturePidgin x = Due.village(3);
        x.age(60);
        due.is("none", x.count(4), 0);
        x.age(1);
        due.is("three", x.count(4), 3);
        x.go(0);
        x.age(61);
        due.is("also those who are gone", x.count(4), 5);
        x.undo();
        due.is("after undo()", x.count(4), 3);
    }

    private static void promise11Years() {
        Due due = doc.promise(11, "5 for the number of years so far");
        GesturePidgin x = new GesturePidgin();
        due.is("none", x.count(5), 0);
        x.age(99);
        due.is("in an empty village", x.count(5), 99);
        x.age(0);
        x.age(100);
        due.is("after refused ones", x.count(5), 99);
        for (int call = 0; call < 500; call++) {
            x.age(99);
        }
        due.is("many", x.count(5), 501 * 99);
    }

    private static void promise11Weights() {
        Due due = doc.promise(11, "6 for the sum of all weights of all speakers");
        GesturePidgin x = Due.village(8);
        due.is("none", x.count(6), 0);
        for (int at = 0; at < 84; at++) {
            x.teach(0, at / 14, at % 14, 99);
        }
        due.is("all of one speaker", x.count(6), 84 * 99);
        x.set(3, 100);
        for (int speaker = 1; speaker < 8; speaker++) {
            x.setAge(speaker, 99);
        }
        x.age(1);
        due.is("all of eight speakers", x.count(6), 8 * 84 * 99);
        x.go(7);
        due.is("all but those of the leaver", x.count(6), 7 * 84 * 99);
        x.teach(6, 5, 13, 0);
        due.is("one less", x.count(6), 7 * 84 * 99 - 99);
    }

    private static void promise11BadValue() {
        Due due = doc.promise(11, "BAD_VALUE if what is out of range");
        int[] whats = {-1, 7, LEAST, MOST};
        for (int what : whats) {
            due.refuses(Look::rich, "count(" + what + ")", x -> x.count(what), BAD_VALUE);
        }
        for (int what = 0; what < 7; what++) {
            due.holds("count(" + what + ") is in range", new GesturePidgin().count(what) >= 0);
        }
    }

    private static void promise12ASetting() {
        Due due = doc.promise(12, "Returns a setting", "`setting`: 0 to 3", "Returns the value");
        GesturePidgin x = new GesturePidgin();
        int[][] values = {{4, 1, 60, 50}, {1, 0, 5, 0}, {9, 9, 99, 100}};
        for (int[] each : values) {
            for (int setting = 0; setting < 4; setting++) {
                x.set(setting, each[setting]);
            }
            for (int setting = 0; setting < 4; setting++) {
                due.is("setting(" + setting + ")", x.setting(setting), each[setting]);
            }
        }
    }

    private static void promise12NoSuch() {
        Due due = doc.promise(12, "NO_SUCH if there is no such setting");
        int[] settings = {-1, 4, LEAST, MOST};
        for (int setting : settings) {
            due.refuses(Look::rich, "setting(" + setting + ")", x -> x.setting(setting), NO_SUCH);
        }
    }

    private static void promise13AWeight() {
        Due due = doc.promise(13, "Returns a weight", "`speaker`: number of the speaker", "`meaning`: 0 to 5",
            "`word`: 0 to 13", "Returns the weight");
        GesturePidgin x = Due.village(8);
        int[] ends = {0, 7, 0, 5, 0, 13};
        for (int at = 0; at < 8; at++) {
            x.teach(ends[at / 4], ends[2 + at / 2 % 2], ends[4 + at % 2], 99 - at);
        }
        for (int at = 0; at < 8; at++) {
            due.is("weight()", x.weight(ends[at / 4], ends[2 + at / 2 % 2], ends[4 + at % 2]), 99 - at);
        }
        due.is("a weight of 0", x.weight(3, 3, 7), 0);
    }

    private static void promise13NoSuch() {
        Due due = doc.promise(13, "NO_SUCH if there is no such speaker, meaning or word");
        for (int nobody : NOBODY) {
            due.refuses(Look::rich, "weight(" + nobody + ", 0, 0)", x -> x.weight(nobody, 0, 0), NO_SUCH);
        }
        for (int meaning : NO_MEANING) {
            due.refuses(Look::rich, "weight(0, " + meaning + ", 0)", x -> x.weight(0, meaning, 0), NO_SUCH);
            due.is("weight(3, " + meaning + ", 13)", Look.rich().weight(3, meaning, 13), NO_SUCH);
        }
        for (int word : NO_WORD) {
            due.refuses(Look::rich, "weight(0, 0, " + word + ")", x -> x.weight(0, 0, word), NO_SUCH);
            due.is("weight(3, 5, " + word + ")", Look.rich().weight(3, 5, word), NO_SUCH);
        }
        due.is("weight(0, 0, 0) in an empty village", new GesturePidgin().weight(0, 0, 0), NO_SUCH);
    }

    private static void speaker() {
        promise14Speakers();
        promise14Age();
        promise14Learns();
        promise14Words();
        promise14Pairs();
        promise14Meetings();
        promise14NoSuch();
        promise14BadValue();
    }

    private static void promise14Speakers() {
        Due due = doc.promise(14, "Returns something about a speaker", "`speaker`: number of the speaker", "Returns "
            + "the number");
        GesturePidgin x = Due.village(8);
        for (int speaker = 0; speaker < 8; speaker++) {
            x.setAge(speaker, 10 + speaker);
        }
        for (int speaker = 0; speaker < 8; speaker++) {
            due.is("the age of " + speaker, x.speaker(speaker, 0), 10 + speaker);
        }
    }

    private static void promise14Age() {
        Due due = doc.promise(14, "0 for the age");
        GesturePidgin x = Due.village(2);
        due.is("a new one", x.speaker(0, 0), 0);
        x.setAge(0, 99);
        due.is("the greatest age that can be set", x.speaker(0, 0), 99);
        x.set(2, 99);
        x.age(1);
        due.is("the child of one who got 100", x.speaker(0, 0), 0);
        x.age(99);
        due.is("the greatest age", x.speaker(0, 0), 99);
        due.is("the child of the other one, who got 100", x.speaker(1, 0), 0);
    }

    private static void promise14Learns() {
        Due due = doc.promise(14, "1 for what the speaker learns");
        GesturePidgin x = Due.village(1);
        int[][] ages = {{9, 0, 9}, {9, 19, 9}, {9, 20, 8}, {9, 99, 5}, {1, 0, 1}, {1, 99, 1}, {3, 39, 2}, {3, 40, 1},
            {3, 60, 1}};
        for (int[] each : ages) {
            x.set(0, each[0]);
            x.setAge(0, each[1]);
            due.is("with gain " + each[0] + " at " + each[1], x.speaker(0, 1), each[2]);
        }
    }

    private static void promise14Words() {
        Due due = doc.promise(14, "2 for the number of meanings for which the speaker has a word");
        GesturePidgin x = Due.village(2);
        due.is("none", x.speaker(0, 2), 0);
        for (int meaning = 0; meaning < 6; meaning++) {
            x.teach(0, meaning, 13, 1);
            due.is("up to " + meaning, x.speaker(0, 2), meaning + 1);
            x.teach(0, meaning, 0, 99);
            due.is("two words count once", x.speaker(0, 2), meaning + 1);
        }
        due.is("the other speaker", x.speaker(1, 2), 0);
    }

    private static void promise14Pairs() {
        Due due = doc.promise(14, "3 for the number of pairs of different meanings for which the speaker has the "
            + "same word");
        GesturePidgin x = Due.village(1);
        due.is("no word is not the same word", x.speaker(0, 3), 0);
        int[] pairs = {0, 1, 3, 6, 10, 15};
        for (int meaning = 0; meaning < 6; meaning++) {
            x.teach(0, meaning, 13, 1);
            due.is("the same word for " + (meaning + 1), x.speaker(0, 3), pairs[meaning]);
        }
        x.teach(0, 0, 0, 2);
        x.teach(0, 5, 0, 2);
        due.is("one pair of the first word, six of the last", x.speaker(0, 3), 7);
        for (int meaning = 0; meaning < 6; meaning++) {
            x.teach(0, meaning, meaning, 3);
        }
        due.is("six words", x.speaker(0, 3), 0);
    }

    private static void promise14Meetings() {
        Due due = doc.promise(14, "4 for the number of meetings in which the speaker took part so far, since the "
            + "speaker came or was born");
        GesturePidgin x = Due.village(3);
        x.meet(0, 1, 0);
        x.meet(1, 0, 0);
        x.meet(2, 1, 0);
        due.is("as the one who says and as the one who hears", x.speaker(0, 4), 2);
        due.is("more than the others", x.speaker(1, 4), 3);
        due.is("one", x.speaker(2, 4), 1);
        x.go(0);
        x.come();
        due.is("since the speaker came", x.speaker(0, 4), 0);
        x.meet(0, 2, 0);
        due.is("one since then", x.speaker(0, 4), 1);
        x.setAge(1, 60);
        x.age(1);
        due.is("since the speaker was born", x.speaker(1, 4), 0);
        due.is("the others go on", x.speaker(2, 4), 2);
        due.is("all meetings", x.count(2), 4);
    }

    private static void promise14NoSuch() {
        Due due = doc.promise(14, "NO_SUCH if there is no such speaker");
        for (int nobody : NOBODY) {
            for (int what = 0; what < 5; what++) {
                int number = what;
                due.is("speaker(" + nobody + ", " + what + ")", Look.rich().speaker(nobody, number), NO_SUCH);
            }
            due.leavesAll(Look::rich, "speaker(" + nobody + ", 0)", x -> x.speaker(nobody, 0));
        }
    }

    private static void promise14BadValue() {
        Due due = doc.promise(14, "BAD_VALUE if what is out of range");
        int[] whats = {-1, 5, LEAST, MOST};
        for (int what : whats) {
            due.refuses(Look::rich, "speaker(0, " + what + ")", x -> x.speaker(0, what), BAD_VALUE);
        }
    }

    private static void promise15TheWord() {
        Due due = doc.promise(15, "Returns the word of a speaker for a meaning", "`speaker`: number of the speaker",
            "`meaning`: 0 to 5", "Returns the word");
        GesturePidgin x = Due.village(8);
        int[] ends = {0, 7};
        for (int speaker : ends) {
            for (int meaning = 0; meaning < 6; meaning++) {
                x.teach(speaker, meaning, (speaker + 2 * meaning) % 14, 1);
            }
        }
        for (int speaker : ends) {
            for (int meaning = 0; meaning < 6; meaning++) {
                due.is("wordOf()", x.wordOf(speaker, meaning), (speaker + 2 * meaning) % 14);
            }
        }
        x.teach(0, 0, 13, 2);
        due.is("the last word", x.wordOf(0, 0), 13);
    }

    private static void promise15NoSuch() {
        Due due = doc.promise(15, "NO_SUCH if there is no such speaker or meaning");
        for (int nobody : NOBODY) {
            due.refuses(Look::rich, "wordOf(" + nobody + ", 0)", x -> x.wordOf(nobody, 0), NO_SUCH);
        }
        for (int meaning : NO_MEANING) {
            due.refuses(Look::rich, "wordOf(0, " + meaning + ")", x -> x.wordOf(0, meaning), NO_SUCH);
            due.is("wordOf(3, " + meaning + ")", Look.rich().wordOf(3, meaning), NO_SUCH);
        }
    }

    private static void promise15None() {
        Due due = doc.promise(15, "NONE if the speaker has no word for it");
        GesturePidgin x = Due.village(2);
        for (int meaning = 0; meaning < 6; meaning++) {
            due.is("new", x.wordOf(0, meaning), NONE);
            x.teach(1, meaning, 0, 99);
            due.is("the other speaker's word isn't one's own", x.wordOf(0, meaning), NONE);
            x.teach(0, meaning, 7, 1);
            due.is("the least weight", x.wordOf(0, meaning), 7);
            x.teach(0, meaning, 7, 0);
            due.is("none again", x.wordOf(0, meaning), NONE);
        }
    }

    private static void promise16TheMeaning() {
        Due due = doc.promise(16, "Returns the meaning as which a speaker hears a word", "`speaker`: number of the "
            + "speaker", "`word`: 0 to 13", "Returns the meaning");
        GesturePidgin x = Due.village(8);
        int[] ends = {0, 7};
        for (int speaker : ends) {
            for (int word = 0; word < 14; word++) {
                x.teach(speaker, (speaker + word) % 6, word, 1);
            }
        }
        for (int speaker : ends) {
            for (int word = 0; word < 14; word++) {
                due.is("hears()", x.hears(speaker, word), (speaker + word) % 6);
            }
        }
    }

    private static void promise16NoSuch() {
        Due due = doc.promise(16, "NO_SUCH if there is no such speaker or word");
        for (int nobody : NOBODY) {
            due.refuses(Look::rich, "hears(" + nobody + ", 0)", x -> x.hears(nobody, 0), NO_SUCH);
        }
        for (int word : NO_WORD) {
            due.refuses(Look::rich, "hears(0, " + word + ")", x -> x.hears(0, word), NO_SUCH);
            due.is("hears(3, " + word + ")", Look.rich().hears(3, word), NO_SUCH);
        }
    }

    private static void promise16None() {
        Due due = doc.promise(16, "NONE if as nothing");
        GesturePidgin x = Due.village(2);
        for (int word = 0; word < 14; word++) {
            due.is("new", x.hears(0, word), NONE);
            x.teach(1, 0, word, 99);
            due.is("what the other one hears isn't what one hears oneself", x.hears(0, word), NONE);
            x.teach(0, 5, word, 1);
            due.is("the least weight", x.hears(0, word), 5);
            x.teach(0, 5, word, 0);
            due.is("nothing again", x.hears(0, word), NONE);
        }
    }

    private static void promise17AGesture() {
        Due due = doc.promise(17, "Returns a gesture of a word", "`word`: 0 to 13");
        GesturePidgin x = new GesturePidgin();
        for (int word = 0; word < 14; word++) {
            int last = WORDS[word].length() - 1;
            due.is("the last gesture of " + WORDS[word], x.gesture(word, last), WORDS[word].charAt(last));
        }
    }

    private static void promise17FirstGesture() {
        Due due = doc.promise(17, "`index`: 0 for its first gesture");
        GesturePidgin x = new GesturePidgin();
        for (int word = 0; word < 14; word++) {
            due.is("the first gesture of " + WORDS[word], x.gesture(word, 0), WORDS[word].charAt(0));
        }
        due.is("the second one of wn", x.gesture(3, 1), 'n');
        due.is("the second one of wnw", x.gesture(8, 1), 'n');
        due.is("the third one of wnw", x.gesture(8, 2), 'w');
    }

    private static void promise17WinkAndNod() {
        Due due = doc.promise(17, "Returns 119 (\"w\") for a wink, 110 (\"n\") for a nod");
        GesturePidgin x = new GesturePidgin();
        due.is("a wink alone", x.gesture(0, 0), 119);
        due.is("a nod alone", x.gesture(1, 0), 110);
        due.is("the last wink of three", x.gesture(6, 2), 119);
        due.is("the last nod of three", x.gesture(13, 2), 110);
    }

    private static void promise17NoSuch() {
        Due due = doc.promise(17, "NO_SUCH if there is no such word");
        for (int word : NO_WORD) {
            due.refuses(Look::rich, "gesture(" + word + ", 0)", x -> x.gesture(word, 0), NO_SUCH);
            due.is("gesture(" + word + ", 2)", new GesturePidgin().gesture(word, 2), NO_SUCH);
        }
    }

    private static void promise17None() {
        Due due = doc.promise(17, "NONE if the word has not so many gestures, or if index is negative");
        GesturePidgin x = new GesturePidgin();
        for (int word = 0; word < 14; word++) {
            due.is("behind the last gesture of " + WORDS[word], x.gesture(word, WORDS[word].length()), NONE);
            due.is("the fourth gesture of " + WORDS[word], x.gesture(word, 3), NONE);
            due.is("gesture -1 of " + WORDS[word], x.gesture(word, -1), NONE);
            due.is("the least index of " + WORDS[word], x.gesture(word, LEAST), NONE);
            due.is("the greatest index of " + WORDS[word], x.gesture(word, MOST), NONE);
        }
    }

    private static void agreement() {
        promise18Number();
        promise18TheSame();
        promise18BothTellTheSame();
        promise18NoSuch();
        promise18BadValue();
    }

    private static void promise18Number() {
        Due due = doc.promise(18, "Returns the number of meanings about which two speakers agree", "`speaker`: "
            + "number of a speaker", "0: told meaning by meaning", "Returns the number");
        GesturePidgin x = Due.village(8);
        due.is("none without words", x.agreement(0, 7, 0), 0);
        for (int meaning = 0; meaning < 6; meaning++) {
            x.teach(0, meaning, 2 * meaning, 9);
            due.is("a word of one", x.agreement(0, 7, 0), meaning);
            x.teach(7, meaning, 2 * meaning, 1);
            due.is("the same word of both", x.agreement(0, 7, 0), meaning + 1);
        }
        x.teach(7, 0, 13, 2);
        due.is("five of six", x.agreement(0, 7, 0), 5);
        due.is("the other way round", x.agreement(7, 0, 0), 5);
    }

    private static void promise18TheSame() {
        Due due = doc.promise(18, "`other`: number of a speaker, possibly the same");
        for (int way = 0; way < 2; way++) {
            GesturePidgin x = Due.village(8);
            due.is("with oneself, without words", x.agreement(7, 7, way), 0);
            x.teach(7, 0, 0, 1);
            due.is("with oneself, one word", x.agreement(7, 7, way), 1);
            x.teach(7, 5, 0, 1);
            due.is("with oneself, the same word for two meanings", x.agreement(7, 7, way), 2);
        }
    }

    private static void promise18BothTellTheSame() {
        Due due = doc.promise(18, "1: told word by word, by the meanings for which it is the word of both (both tell "
            + "the same)");
        GesturePidgin x = Due.village(2);
        due.is("none without words", x.agreement(0, 1, 1), 0);
        x.teach(0, 0, 0, 9);
        x.teach(1, 1, 0, 9);
        due.is("the same word for other meanings", x.agreement(0, 1, 1), 0);
        x.teach(0, 1, 0, 9);
        due.is("the first word", x.agreement(0, 1, 1), 1);
        x.teach(1, 0, 0, 9);
        due.is("one word of both for two meanings", x.agreement(0, 1, 1), 2);
        x.teach(0, 5, 13, 9);
        x.teach(1, 5, 13, 9);
        due.is("the last word for the last meaning", x.agreement(0, 1, 1), 3);
        due.is("meaning by meaning", x.agreement(0, 1, 0), 3);
        for (int chats = 0; chats < 30; chats++) {
            x.chat(20);
            due.is("both tell the same", x.agreement(0, 1, 1), x.agreement(0, 1, 0));
        }
    }

    private static void promise18NoSuch() {
        Due due = doc.promise(18, "NO_SUCH if there is no such speaker");
        for (int nobody : NOBODY) {
            due.refuses(Look::rich, "agreement(" + nobody + ", 0, 0)", x -> x.agreement(nobody, 0, 0), NO_SUCH);
            due.refuses(Look::rich, "agreement(0, " + nobody + ", 1)", x -> x.agreement(0, nobody, 1), NO_SUCH);
            due.is("with oneself", Look.rich().agreement(nobody, nobody, 0), NO_SUCH);
        }
    }

    private static void promise18BadValue() {
        Due due = doc.promise(18, "BAD_VALUE if way is neither 0 nor 1");
        int[] ways = {-1, 2, LEAST, MOST};
        for (int way : ways) {
            due.refuses(Look::rich, "agreement(0, 1, " + way + ")", x -> x.agreement(0, 1, way), BAD_VALUE);
        }
    }

    private static void promise19Understanding() {
        Due due = doc.promise(19, "Returns the understanding of a speaker by another one", "`speaker`: number of the "
            + "speaker who says something", "Returns the number");
        GesturePidgin x = Due.village(8);
        due.is("none without words", x.understanding(0, 7), 0);
        for (int meaning = 0; meaning < 6; meaning++) {
            x.teach(7, meaning, 13 - meaning, 1);
            due.is("nothing is said", x.understanding(0, 7), meaning);
            x.teach(0, meaning, 13 - meaning, 9);
            due.is("said and heard", x.understanding(0, 7), meaning + 1);
        }
        x.teach(7, 0, 0, 9);
        due.is("heard, though the hearer says another word", x.understanding(0, 7), 6);
        due.is("not heard the other way round", x.understanding(7, 0), 5);
    }

    private static void promise19TheSame() {
        Due due = doc.promise(19, "`other`: number of the one who hears it, possibly the same");
        GesturePidgin x = Due.village(8);
        due.is("by oneself, without words", x.understanding(7, 7), 0);
        x.teach(7, 0, 0, 1);
        x.teach(7, 5, 13, 1);
        due.is("by oneself, two words", x.understanding(7, 7), 2);
        x.teach(7, 5, 0, 2);
        due.is("by oneself, one word for two meanings", x.understanding(7, 7), 1);
    }

    private static void promise19NoSuch() {
        Due due = doc.promise(19, "NO_SUCH if there is no such speaker");
        for (int nobody : NOBODY) {
            due.refuses(Look::rich, "understanding(" + nobody + ", 0)", x -> x.understanding(nobody, 0), NO_SUCH);
            due.refuses(Look::rich, "understanding(0, " + nobody + ")", x -> x.understanding(0, nobody), NO_SUCH);
            due.is("by oneself", Look.rich().understanding(nobody, nobody), NO_SUCH);
        }
    }

    private static void common() {
        promise20MostCommon();
        promise20Meanings();
        promise20NoSuch();
        promise20None();
    }

    private static void promise20MostCommon() {
        Due due = doc.promise(20, "Returns the most common word for a meaning: the one that is the word of the most "
            + "speakers for it, of several the first one", "Returns the word");
        GesturePidgin x = Due.village(8);
        x.teach(7, 0, 13, 1);
        due.is("the only one", x.common(0), 13);
        x.teach(0, 0, 6, 99);
        due.is("of two the first one", x.common(0), 6);
        x.teach(6, 0, 13, 1);
        due.is("two speakers against one, whatever the weights", x.common(0), 13);
        x.teach(1, 0, 6, 99);
        due.is("two against two, the first one", x.common(0), 6);
        x.teach(2, 0, 0, 99);
        x.teach(3, 0, 0, 99);
        due.is("two each of three words, the first one", x.common(0), 0);
        x.teach(4, 0, 13, 5);
        x.teach(5, 0, 13, 5);
        due.is("four speakers", x.common(0), 13);
        x.teach(5, 0, 12, 6);
        x.teach(4, 0, 12, 6);
        due.is("only the greatest weight makes the word", x.common(0), 0);
    }

    private static void promise20Meanings() {
        Due due = doc.promise(20, "`meaning`: 0 to 5");
        GesturePidgin x = Due.village(1);
        for (int meaning = 0; meaning < 6; meaning++) {
            x.teach(0, meaning, 13 - meaning, 1);
        }
        for (int meaning = 0; meaning < 6; meaning++) {
            due.is("common(" + meaning + ")", x.common(meaning), 13 - meaning);
        }
    }

    private static void promise20NoSuch() {
        Due due = doc.promise(20, "NO_SUCH if there is no such meaning");
        for (int meaning : NO_MEANING) {
            due.refuses(Look::rich, "common(" + meaning + ")", x -> x.common(meaning), NO_SUCH);
            due.is("in an empty village", new GesturePidgin().common(meaning), NO_SUCH);
        }
    }

    private static void promise20None() {
        Due due = doc.promise(20, "NONE if no speaker has a word for it");
        GesturePidgin x = new GesturePidgin();
        for (int meaning = 0; meaning < 6; meaning++) {
            due.is("nobody is there", x.common(meaning), NONE);
        }
        x.come();
        due.is("nobody has a word", x.common(3), NONE);
        x.teach(0, 3, 0, 1);
        due.is("somebody has one", x.common(3), 0);
        due.is("not for the meaning before", x.common(2), NONE);
        due.is("not for the meaning behind", x.common(4), NONE);
        x.go(0);
        due.is("the one who had it is gone", x.common(3), NONE);
    }
}
