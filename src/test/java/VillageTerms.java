/** The sentences of the section Terms about words, speakers, chance and settings. */
final class VillageTerms {
    private static final int OUT = GesturePidgin.BAD_VALUE;
    private static final String[] WORDS =
        {"w", "n", "ww", "wn", "nw", "nn", "www", "wwn", "wnw", "wnn", "nww", "nwn", "nnw", "nnn"};

    private final Sentences doc;

    private VillageTerms(Sentences doc) {
        this.doc = doc;
    }

    static void tell(Sentences doc) {
        VillageTerms terms = new VillageTerms(doc);
        terms.numberedFromZero();
        terms.divisionsRoundDown();
        terms.oneToThreeGestures();
        terms.fourteenWords();
        terms.atMostEightSpeakers();
        terms.newSpeaker();
        terms.aWeightForEach();
        terms.greatestWeightFirstWord();
        terms.noWord();
        terms.greatestWeightLowestMeaning();
        terms.asNothing();
        terms.seed();
        terms.drawBelow();
        terms.gain();
        terms.loss();
        terms.life();
        terms.share();
    }

    private void numberedFromZero() {
        Due due = doc.terms("2, 6, 11, 12, 15, 16, 17", "Everything is numbered from 0");
        GesturePidgin x = new GesturePidgin();
        due.is("the first speaker", x.come(), 0);
        due.is("the first weight", x.teach(0, 0, 0, 1), 0);
        due.is("the first word of the first meaning", x.wordOf(0, 0), 0);
        due.is("the first meaning of the first word", x.hears(0, 0), 0);
        due.is("the first gesture of the first word", x.gesture(0, 0), 'w');
        due.is("the first setting", x.setting(0), 4);
        due.is("the first number", x.count(0), 1);
        due.is("no speaker -1", x.speaker(-1, 0), GesturePidgin.NO_SUCH);
        due.is("no meaning -1", x.wordOf(0, -1), GesturePidgin.NO_SUCH);
        due.is("no word -1", x.hears(0, -1), GesturePidgin.NO_SUCH);
        due.is("no gesture -1", x.gesture(0, -1), GesturePidgin.NONE);
        due.is("no setting -1", x.setting(-1), GesturePidgin.NO_SUCH);
    }

    private void divisionsRoundDown() {
        Due due = doc.terms("8, 10, 14", "All divisions round down (no negative number is ever divided)");
        GesturePidgin x = Due.village(2);
        int[] ages = {0, 19, 20, 39, 40, 59, 60};
        int[] lost = {0, 0, 1, 1, 2, 2, 3};
        x.set(0, 9);
        for (int i = 0; i < ages.length; i++) {
            x.setAge(0, ages[i]);
            due.is("gain 9 less the age " + ages[i] + " / 20", x.speaker(0, 1), 9 - lost[i]);
        }
        GesturePidgin y = Due.village(2);
        int[] weights = {1, 2, 3, 49, 50, 98, 99};
        int[] halves = {0, 1, 1, 24, 25, 49, 49};
        for (int word = 0; word < weights.length; word++) {
            y.teach(1, 0, word, weights[word]);
        }
        y.setAge(0, 99);
        y.age(1);
        for (int word = 0; word < weights.length; word++) {
            due.is("half of " + weights[word], y.weight(0, 0, word), halves[word]);
        }
        for (int meaning = 0; meaning < 6; meaning++) {
            GesturePidgin z = Due.village(2);
            z.teach(0, 0, 0, 1);
            z.setSeed(Chance.before(16 * meaning + 15));
            due.is("(16 * " + meaning + " + 15) / 16 as a drawn meaning", z.meet(0, 1, 0), meaning);
        }
    }

    private void oneToThreeGestures() {
        Due due = doc.terms("17", "A word is one to three gestures, each a wink or a nod");
        GesturePidgin x = new GesturePidgin();
        boolean[] lengths = new boolean[5];
        for (int word = 0; word < 14; word++) {
            int length = 0;
            for (int index = 0; index < 5; index++) {
                int gesture = x.gesture(word, index);
                due.holds("a wink or a nod, and then no more", gesture == 'w' || gesture == 'n'
                    || gesture == GesturePidgin.NONE);
                length += gesture == GesturePidgin.NONE ? 0 : 1;
            }
            lengths[Math.min(4, length)] = true;
        }
        due.holds("no word without a gesture", !lengths[0]);
        due.holds("words of 1 to 3 gestures", lengths[1] && lengths[2] && lengths[3]);
        due.holds("no word of 4 gestures", !lengths[4]);
    }

    private void fourteenWords() {
        Due due = doc.terms("17", "There are 14 words, ordered by their length, and those of the same length with a "
            + "wink before a nod at the first gesture that differs: 0 wink, 1 nod, 2 wink wink, 3 wink nod, 4 nod "
            + "wink, 5 nod nod, 6 wink wink wink, and so on up to 13 nod nod nod");
        GesturePidgin x = new GesturePidgin();
        for (int word = 0; word < WORDS.length; word++) {
            for (int index = 0; index < WORDS[word].length(); index++) {
                due.is("gesture(" + word + ", " + index + ")", x.gesture(word, index), WORDS[word].charAt(index));
            }
        }
        due.is("no word -1", x.gesture(-1, 0), GesturePidgin.NO_SUCH);
        due.is("no word 14", x.gesture(14, 0), GesturePidgin.NO_SUCH);
    }

    private void atMostEightSpeakers() {
        Due due = doc.terms("2, 3", "There are at most 8 speakers, with numbers from 0 to 7");
        GesturePidgin x = new GesturePidgin();
        for (int number = 0; number < 8; number++) {
            due.is("come()", x.come(), number);
        }
        due.is("come() to 8", x.come(), GesturePidgin.LIMIT);
        due.is("count(0)", x.count(0), 8);
        due.is("the age of 0", x.speaker(0, 0), 0);
        due.is("the age of 7", x.speaker(7, 0), 0);
        due.is("no speaker -1", x.speaker(-1, 0), GesturePidgin.NO_SUCH);
        due.is("no speaker 8", x.speaker(8, 0), GesturePidgin.NO_SUCH);
    }

    private void newSpeaker() {
        Due due = doc.terms("2", "a new speaker gets the lowest free number, has the age 0, and no habits");
        GesturePidgin x = Due.village(8);
        int[] leavers = {7, 2, 5};
        for (int leaver : leavers) {
            x.setAge(leaver, 99);
            x.teach(leaver, 0, 0, 99);
            x.teach(leaver, 5, 13, 99);
            x.go(leaver);
        }
        int[] free = {2, 5, 7};
        for (int number : free) {
            due.is("come()", x.come(), number);
            due.is("age", x.speaker(number, 0), 0);
            due.is("the first weight", x.weight(number, 0, 0), 0);
            due.is("the last weight", x.weight(number, 5, 13), 0);
            due.is("meanings with a word", x.speaker(number, 2), 0);
        }
        due.is("no weights at all", x.count(6), 0);
        due.is("come() to 8", x.come(), GesturePidgin.LIMIT);
    }

    private void aWeightForEach() {
        Due due = doc.terms("6, 13", "For each speaker, each of the 6 meanings, 0 to 5, and each word there is a "
            + "weight, 0 to 99");
        GesturePidgin x = Due.village(1);
        for (int at = 0; at < 84; at++) {
            due.is("teach()", x.teach(0, at / 14, at % 14, 99 - at), 0);
        }
        for (int at = 0; at < 84; at++) {
            due.is("weight(0, " + at / 14 + ", " + at % 14 + ")", x.weight(0, at / 14, at % 14), 99 - at);
        }
        GesturePidgin y = Due.village(8);
        for (int at = 0; at < 32; at++) {
            y.teach(at / 4, at % 4 / 2 * 5, at % 2 * 13, at + 1);
        }
        for (int at = 0; at < 32; at++) {
            due.is("a corner of speaker " + at / 4, y.weight(at / 4, at % 4 / 2 * 5, at % 2 * 13), at + 1);
        }
        due.is("no meaning 6", y.weight(7, 6, 0), GesturePidgin.NO_SUCH);
        due.is("no meaning -1", y.weight(7, -1, 0), GesturePidgin.NO_SUCH);
        due.is("weight 100", y.teach(7, 0, 0, 100), OUT);
        due.is("weight -1", y.teach(7, 0, 0, -1), OUT);
        due.is("weight 99", y.teach(7, 0, 0, 99), 29);
        due.is("weight 0", y.teach(7, 0, 0, 0), 99);
    }

    private void greatestWeightFirstWord() {
        Due due = doc.terms("8, 15, 20", "The word of a speaker for a meaning is the one with the greatest weight, "
            + "of several the first one");
        GesturePidgin x = Due.village(1);
        x.teach(0, 0, 13, 98);
        due.is("the only one", x.wordOf(0, 0), 13);
        x.teach(0, 0, 6, 99);
        due.is("greater by 1, ahead of it", x.wordOf(0, 0), 6);
        x.teach(0, 0, 13, 99);
        due.is("the first of two", x.wordOf(0, 0), 6);
        x.teach(0, 0, 0, 99);
        due.is("the first of three", x.wordOf(0, 0), 0);
        x.teach(0, 0, 0, 98);
        x.teach(0, 0, 6, 98);
        due.is("greater by 1, behind the others", x.wordOf(0, 0), 13);
    }

    private void noWord() {
        Due due = doc.terms("8, 14, 15", "a speaker has no word for a meaning for which all weights are 0");
        GesturePidgin x = Due.village(1);
        for (int meaning = 0; meaning < 6; meaning++) {
            due.is("new: wordOf(0, " + meaning + ")", x.wordOf(0, meaning), GesturePidgin.NONE);
        }
        x.teach(0, 3, 0, 1);
        due.is("the least weight for the first word", x.wordOf(0, 3), 0);
        x.teach(0, 3, 0, 0);
        due.is("all are 0 again", x.wordOf(0, 3), GesturePidgin.NONE);
        x.teach(0, 3, 13, 1);
        due.is("the least weight for the last word", x.wordOf(0, 3), 13);
        due.is("the meaning before", x.wordOf(0, 2), GesturePidgin.NONE);
        due.is("the meaning behind", x.wordOf(0, 4), GesturePidgin.NONE);
        due.is("meanings with a word", x.speaker(0, 2), 1);
    }

    private void greatestWeightLowestMeaning() {
        Due due = doc.terms("8, 16", "A speaker hears a word as the meaning with the greatest weight for it, of "
            + "several the lowest");
        GesturePidgin x = Due.village(1);
        x.teach(0, 5, 13, 98);
        due.is("the only one", x.hears(0, 13), 5);
        x.teach(0, 2, 13, 99);
        due.is("greater by 1, below it", x.hears(0, 13), 2);
        x.teach(0, 5, 13, 99);
        due.is("the lowest of two", x.hears(0, 13), 2);
        x.teach(0, 0, 13, 99);
        due.is("the lowest of three", x.hears(0, 13), 0);
        x.teach(0, 0, 13, 98);
        x.teach(0, 2, 13, 98);
        due.is("greater by 1, above the others", x.hears(0, 13), 5);
    }

    private void asNothing() {
        Due due = doc.terms("8, 16", "or as nothing, if all of them are 0");
        GesturePidgin x = Due.village(1);
        for (int word = 0; word < 14; word++) {
            due.is("new: hears(0, " + word + ")", x.hears(0, word), GesturePidgin.NONE);
        }
        x.teach(0, 0, 7, 1);
        due.is("the least weight for the lowest meaning", x.hears(0, 7), 0);
        x.teach(0, 0, 7, 0);
        due.is("all are 0 again", x.hears(0, 7), GesturePidgin.NONE);
        x.teach(0, 5, 7, 1);
        due.is("the least weight for the greatest meaning", x.hears(0, 7), 5);
        due.is("the word before", x.hears(0, 6), GesturePidgin.NONE);
        due.is("the word behind", x.hears(0, 8), GesturePidgin.NONE);
    }

    private void seed() {
        Due due = doc.terms("1, 5, 11", "There is a seed, 0 to 65535, initially 1");
        GesturePidgin x = new GesturePidgin();
        due.is("count(1) of a new village", x.count(1), 1);
        due.is("setSeed(-1)", x.setSeed(-1), OUT);
        due.is("setSeed(65536)", x.setSeed(65536), OUT);
        due.is("count(1) then", x.count(1), 1);
        due.is("setSeed(0)", x.setSeed(0), 1);
        due.is("count(1)", x.count(1), 0);
        due.is("setSeed(65535)", x.setSeed(65535), 0);
        due.is("count(1)", x.count(1), 65535);
    }

    /** The one who hears knows all words as meaning 5, so that the word alone is drawn. */
    private void drawBelow() {
        Due due = doc.terms("8, 9", "To draw a number below n is to make the seed (25173 * seed + 13849) modulo "
            + "65536, and to take (seed / 16) modulo n");
        int[] seeds = {0, 1, 2, 65535, 65534, 32768, Chance.before(0), Chance.before(65535), Chance.before(1),
            Chance.before(15), Chance.before(16), Chance.before(16 * 14 - 1), Chance.before(16 * 14),
            Chance.before(16 * 13), Chance.before(65534)};
        for (int seed : seeds) {
            GesturePidgin x = Due.village(2);
            for (int word = 0; word < 14; word++) {
                x.teach(1, 5, word, 9);
            }
            x.setSeed(seed);
            int next = Chance.after(seed);
            due.is("the word drawn from seed " + seed, x.meet(0, 1, 0), 10 * (next / 16 % 14) + 5);
            due.is("the seed after " + seed, x.count(1), next);
        }
    }

    /** Checks the range and the initial value of a setting, at each end and beyond. */
    private static void checkRange(Due due, int setting, int least, int most, int initial) {
        GesturePidgin x = new GesturePidgin();
        due.is("initially", x.setting(setting), initial);
        due.is("below the least", x.set(setting, least - 1), OUT);
        due.is("above the greatest", x.set(setting, most + 1), OUT);
        due.is("unchanged", x.setting(setting), initial);
        due.is("the least", x.set(setting, least), initial);
        due.is("the least then", x.setting(setting), least);
        due.is("the greatest", x.set(setting, most), least);
        due.is("the greatest then", x.setting(setting), most);
    }

    private void gain() {
        Due due = doc.terms("1, 4, 12, 14", "Settings (number: name, range, initial value): 0: gain, 1 to 9, 4");
        checkRange(due, 0, 1, 9, 4);
        GesturePidgin x = Due.village(1);
        due.is("learns at first", x.speaker(0, 1), 4);
        x.set(0, 1);
        due.is("learns with the least gain", x.speaker(0, 1), 1);
        x.set(0, 9);
        due.is("learns with the greatest gain", x.speaker(0, 1), 9);
    }

    private void loss() {
        Due due = doc.terms("1, 4, 8, 12", "1: loss, 0 to 9, 1");
        checkRange(due, 1, 0, 9, 1);
        int[] losses = {0, 1, 9};
        for (int loss : losses) {
            GesturePidgin x = Due.village(2);
            x.set(1, loss);
            x.teach(0, 0, 0, 50);
            x.teach(0, 0, 1, 30);
            x.teach(1, 0, 0, 50);
            x.meet(0, 1, 0);
            due.is("another word with loss " + loss, x.weight(0, 0, 1), 30 - loss);
        }
    }

    private void life() {
        Due due = doc.terms("1, 4, 10, 12", "2: life, 5 to 99, 60");
        checkRange(due, 2, 5, 99, 60);
        int[] lives = {5, 60, 99};
        for (int life : lives) {
            GesturePidgin x = Due.village(1);
            x.set(2, life);
            x.setAge(0, life - 1);
            due.is("children at the life of " + life, x.age(1), 0);
            due.is("children above the life of " + life, x.age(1), 1);
        }
    }

    private void share() {
        Due due = doc.terms("1, 4, 10, 12", "3: share, 0 to 100 (percent), 50");
        checkRange(due, 3, 0, 100, 50);
        int[] shares = {0, 1, 50, 99, 100};
        int[] parts = {0, 0, 49, 98, 99};
        for (int i = 0; i < shares.length; i++) {
            GesturePidgin x = Due.village(2);
            x.set(3, shares[i]);
            x.teach(1, 0, 0, 99);
            x.setAge(0, 99);
            x.age(1);
            due.is(shares[i] + " percent of 99", x.weight(0, 0, 0), parts[i]);
            due.is("the teacher's weight", x.weight(1, 0, 0), 99);
        }
    }
}
