/** The sentences of the section Terms about meetings, years and agreement. */
final class MeetingTerms {
    private final Sentences doc;

    private MeetingTerms(Sentences doc) {
        this.doc = doc;
    }

    static void tell(Sentences doc) {
        MeetingTerms terms = new MeetingTerms(doc);
        terms.sayerAndAnother();
        terms.saysTheWord();
        terms.drawsAWord();
        terms.hearsAsTold();
        terms.drawsAMeaning();
        terms.succeedsOrFails();
        terms.learnsAtLeastOne();
        terms.weightsStayInRange();
        terms.successGrows();
        terms.successOtherWords();
        terms.successOtherMeanings();
        terms.failureOfTheWord();
        terms.failureOfTheMeaning();
        terms.oneYearMore();
        terms.followedByAChild();
        terms.weightsOfTheChild();
        terms.theTeacher();
        terms.withoutATeacher();
        terms.agreement();
        terms.understanding();
    }

    private void sayerAndAnother() {
        Due due = doc.terms("8, 9", "A meeting has a speaker who says something, another one who hears it, and a "
            + "meaning");
        GesturePidgin x = Due.village(2);
        x.teach(0, 0, 3, 9);
        x.teach(1, 4, 3, 9);
        due.is("0 says and 1 hears", x.meet(0, 1, 0), 34);
        due.is("nobody meets oneself", x.meet(0, 0, 0), GesturePidgin.NOT_POSSIBLE);
        GesturePidgin y = Due.village(2);
        y.chat(200);
        due.is("by chance, too, nobody meets oneself: meetings of 0", y.speaker(0, 4), 200);
        due.is("by chance, too, nobody meets oneself: meetings of 1", y.speaker(1, 4), 200);
    }

    private void saysTheWord() {
        Due due = doc.terms("8", "The first one says their word for the meaning");
        int[] words = {0, 13};
        for (int word : words) {
            GesturePidgin x = Due.village(2);
            x.teach(0, 2, word, 1);
            x.teach(1, 2, word, 1);
            x.teach(1, 2, 7, 99);
            x.teach(0, 3, 7, 99);
            due.is("a word with the least weight", x.meet(0, 1, 2), 10 * word + 2);
            due.is("nothing is drawn", x.count(1), 1);
        }
    }

    private void drawsAWord() {
        Due due = doc.terms("8", "without one a word is drawn (a number below 14)");
        int[] drawn = {0, 1, 12, 13};
        for (int word : drawn) {
            GesturePidgin x = Due.village(2);
            x.teach(1, 4, word, 1);
            x.teach(0, 1, 7, 99);
            x.setSeed(Chance.before(16 * word));
            due.is("the least seed for word " + word, x.meet(0, 1, 2), 10 * word + 4);
            due.is("one number is drawn", x.count(1), 16 * word);
            x.undo();
            x.setSeed(Chance.before(16 * (14 + word) + 15));
            due.is("word " + word + " of the second round", x.meet(0, 1, 2), 10 * word + 4);
        }
    }

    private void hearsAsTold() {
        Due due = doc.terms("8", "The second one hears it as told above");
        GesturePidgin x = Due.village(2);
        x.teach(0, 2, 5, 9);
        x.teach(0, 0, 5, 99);
        x.teach(1, 4, 5, 1);
        due.is("the only meaning, with the least weight", x.meet(0, 1, 2), 54);
        due.is("nothing is drawn", x.count(1), 1);
        x.undo();
        x.teach(1, 5, 5, 1);
        due.is("the lowest of two", x.meet(0, 1, 2), 54);
        x.undo();
        x.teach(1, 5, 5, 2);
        due.is("the greatest of two", x.meet(0, 1, 2), 55);
    }

    private void drawsAMeaning() {
        Due due = doc.terms("8", "if as nothing, a meaning is drawn (a number below 6)");
        for (int meaning = 0; meaning < 6; meaning++) {
            GesturePidgin x = Due.village(2);
            x.teach(0, 2, 5, 9);
            x.teach(1, 2, 6, 99);
            x.setSeed(Chance.before(16 * meaning));
            due.is("the least seed for meaning " + meaning, x.meet(0, 1, 2), 50 + meaning);
            due.is("one number is drawn", x.count(1), 16 * meaning);
            x.undo();
            x.setSeed(Chance.before(16 * (6 + meaning) + 15));
            due.is("meaning " + meaning + " of the second round", x.meet(0, 1, 2), 50 + meaning);
        }
    }

    private void succeedsOrFails() {
        Due due = doc.terms("8, 11", "If this is the meaning that was meant, the meeting succeeds, otherwise it "
            + "fails");
        for (int heard = 0; heard < 6; heard++) {
            GesturePidgin x = Due.village(2);
            x.teach(0, 0, 5, 9);
            x.teach(1, heard, 5, 9);
            x.meet(0, 1, 0);
            due.is("successes when 0 is heard as " + heard, x.count(3), heard == 0 ? 1 : 0);
        }
        GesturePidgin y = Due.village(2);
        y.teach(0, 0, 5, 9);
        y.setSeed(Chance.before(0));
        y.meet(0, 1, 0);
        due.is("a drawn meaning may be the one that was meant", y.count(3), 1);
    }

    private void learnsAtLeastOne() {
        Due due = doc.terms("8, 14", "What a speaker learns is the setting gain, less the age / 20, but at least 1");
        int[][] ages = {{4, 19, 4}, {4, 20, 3}, {4, 59, 2}, {4, 60, 1}, {4, 79, 1}, {4, 80, 1}, {4, 99, 1},
            {1, 0, 1}, {1, 20, 1}, {1, 99, 1}, {9, 0, 9}, {9, 99, 5}, {5, 80, 1}, {5, 79, 2}};
        for (int[] age : ages) {
            GesturePidgin x = Due.village(2);
            x.set(0, age[0]);
            x.setAge(0, age[1]);
            x.teach(0, 0, 0, 50);
            x.teach(1, 0, 0, 50);
            due.is("learns with gain " + age[0] + " at " + age[1], x.speaker(0, 1), age[2]);
            x.meet(0, 1, 0);
            due.is("the weight of the one who says it", x.weight(0, 0, 0), 50 + age[2]);
            x.undo();
            x.meet(1, 0, 0);
            due.is("the weight of the one who hears it", x.weight(0, 0, 0), 50 + age[2]);
        }
    }

    private void weightsStayInRange() {
        Due due = doc.terms("8", "Weights never get below 0 or above 99");
        int[] weights = {95, 96, 98, 99};
        for (int weight : weights) {
            GesturePidgin x = Due.village(2);
            x.teach(0, 0, 0, weight);
            x.teach(1, 0, 0, weight);
            x.meet(0, 1, 0);
            due.is("grown from " + weight + ", who says", x.weight(0, 0, 0), 99);
            due.is("grown from " + weight + ", who hears", x.weight(1, 0, 0), 99);
        }
        for (int weight = 8; weight < 11; weight++) {
            GesturePidgin x = Due.village(2);
            x.set(1, 9);
            x.teach(0, 0, 0, 50);
            x.teach(0, 0, 1, weight);
            x.teach(1, 0, 0, 50);
            x.teach(1, 0, 1, weight);
            x.teach(1, 3, 0, weight);
            x.meet(0, 1, 0);
            int left = Math.max(0, weight - 9);
            due.is("another word, who says, from " + weight, x.weight(0, 0, 1), left);
            due.is("another word, who hears, from " + weight, x.weight(1, 0, 1), left);
            due.is("another meaning, who hears, from " + weight, x.weight(1, 3, 0), left);
        }
        for (int weight = 8; weight < 11; weight++) {
            GesturePidgin x = Due.village(2);
            x.set(1, 9);
            x.teach(0, 0, 0, weight);
            x.teach(1, 3, 0, weight);
            x.meet(0, 1, 0);
            int left = Math.max(0, weight - 9);
            due.is("a failure, who says, from " + weight, x.weight(0, 0, 0), left);
            due.is("a failure, who hears, from " + weight, x.weight(1, 3, 0), left);
        }
        GesturePidgin y = Due.village(2);
        y.teach(0, 1, 0, 50);
        y.teach(1, 0, 0, 99);
        y.teach(1, 1, 0, 99);
        y.meet(0, 1, 1);
        due.is("a failure, grown from 99", y.weight(1, 1, 0), 99);
    }

    /** Two speakers of the same word for meaning 2, with other words and other meanings beside it. */
    private static GesturePidgin pair(int loss) {
        GesturePidgin x = Due.village(2);
        x.set(1, loss);
        for (int speaker = 0; speaker < 2; speaker++) {
            x.setAge(speaker, 20 * speaker);
            x.teach(speaker, 2, 5, 50);
            x.teach(speaker, 2, 0, 40);
            x.teach(speaker, 2, 13, 1);
            x.teach(speaker, 0, 5, 40);
            x.teach(speaker, 5, 5, 1);
            x.teach(speaker, 0, 0, 30);
        }
        return x;
    }

    private void successGrows() {
        Due due = doc.terms("8", "If it succeeds: for each of both, the weight of this word for this meaning grows "
            + "by what this speaker learns");
        GesturePidgin x = pair(1);
        due.is("meet(0, 1, 2)", x.meet(0, 1, 2), 52);
        due.is("the one who says it learns 4", x.weight(0, 2, 5), 54);
        due.is("the one who hears it learns 3", x.weight(1, 2, 5), 53);
        GesturePidgin y = pair(1);
        due.is("meet(1, 0, 2)", y.meet(1, 0, 2), 52);
        due.is("the one who says it learns 3", y.weight(1, 2, 5), 53);
        due.is("the one who hears it learns 4", y.weight(0, 2, 5), 54);
    }

    private void successOtherWords() {
        Due due = doc.terms("8", "all weights of other words for this meaning become less by the loss");
        int[] losses = {0, 1, 9};
        for (int loss : losses) {
            GesturePidgin x = pair(loss);
            x.meet(0, 1, 2);
            for (int speaker = 0; speaker < 2; speaker++) {
                due.is("the first word", x.weight(speaker, 2, 0), 40 - loss);
                due.is("the last word, not below 0", x.weight(speaker, 2, 13), Math.max(0, 1 - loss));
                due.is("a word of weight 0", x.weight(speaker, 2, 6), 0);
                due.is("another word for another meaning stays", x.weight(speaker, 0, 0), 30);
            }
        }
    }

    private void successOtherMeanings() {
        Due due = doc.terms("8", "and for the one who hears, all weights of this word for other meanings become less "
            + "by the loss, too");
        int[] losses = {0, 1, 9};
        for (int loss : losses) {
            GesturePidgin x = pair(loss);
            x.meet(0, 1, 2);
            due.is("the lowest meaning, who hears", x.weight(1, 0, 5), 40 - loss);
            due.is("the greatest meaning, who hears", x.weight(1, 5, 5), Math.max(0, 1 - loss));
            due.is("the lowest meaning, who says, stays", x.weight(0, 0, 5), 40);
            due.is("the greatest meaning, who says, stays", x.weight(0, 5, 5), 1);
        }
    }

    private void failureOfTheWord() {
        Due due = doc.terms("8", "If it fails: the weight of this word for this meaning becomes less by the loss for "
            + "the one who says it, and grows by 1 for the one who hears it");
        int[] losses = {0, 1, 9};
        for (int loss : losses) {
            GesturePidgin x = pair(loss);
            x.set(0, 9);
            x.teach(1, 4, 5, 60);
            due.is("meet(0, 1, 2)", x.meet(0, 1, 2), 54);
            due.is("who says it", x.weight(0, 2, 5), 50 - loss);
            due.is("who hears it", x.weight(1, 2, 5), 51);
            due.is("other words stay, who says", x.weight(0, 2, 0), 40);
            due.is("other words stay, who hears", x.weight(1, 2, 0), 40);
        }
    }

    private void failureOfTheMeaning() {
        Due due = doc.terms("8", "and for the one who hears, the weight of this word for the meaning as which it was "
            + "taken becomes less by the loss");
        int[] losses = {0, 1, 9};
        for (int loss : losses) {
            GesturePidgin x = pair(loss);
            x.teach(0, 4, 5, 49);
            x.teach(1, 4, 5, 60);
            x.meet(0, 1, 2);
            due.is("the meaning as which it was taken, who hears", x.weight(1, 4, 5), 60 - loss);
            due.is("the same meaning, who says, stays", x.weight(0, 4, 5), 49);
            due.is("another meaning stays", x.weight(1, 0, 5), 40);
        }
        GesturePidgin y = Due.village(2);
        y.teach(0, 2, 5, 50);
        y.setSeed(Chance.before(16 * 4));
        due.is("a drawn meaning", y.meet(0, 1, 2), 54);
        due.is("a drawn meaning stays at 0", y.weight(1, 4, 5), 0);
    }

    private void oneYearMore() {
        Due due = doc.terms("10", "When a year passes, the age of each speaker becomes 1 more");
        GesturePidgin x = Due.village(8);
        x.go(3);
        x.setAge(7, 59);
        x.age(1);
        due.is("the first speaker", x.speaker(0, 0), 1);
        due.is("the last speaker", x.speaker(7, 0), 60);
        due.is("nobody is born by it", x.speaker(3, 0), GesturePidgin.NO_SUCH);
        x.age(2);
        due.is("two more", x.speaker(0, 0), 3);
        x.come();
        due.is("years before the coming don't count", x.speaker(3, 0), 0);
    }

    private void followedByAChild() {
        Due due = doc.terms("10", "Then, by ascending numbers, each speaker whose age is greater than the life is "
            + "followed by a child, who has the same number, and the age 0");
        GesturePidgin x = Due.village(4);
        x.setAge(0, 59);
        x.setAge(2, 60);
        x.setAge(3, 99);
        due.is("age(1)", x.age(1), 2);
        due.is("60 at a life of 60", x.speaker(0, 0), 60);
        due.is("1 at a life of 60", x.speaker(1, 0), 1);
        due.is("the child of one who got 61", x.speaker(2, 0), 0);
        due.is("the child of one who got 100", x.speaker(3, 0), 0);
        due.is("as many speakers as before", x.count(0), 4);
        GesturePidgin y = Due.village(3);
        y.setAge(0, 99);
        y.setAge(2, 99);
        y.teach(1, 0, 0, 80);
        y.age(1);
        due.is("0 is followed before 2, who learns from 0", y.weight(2, 0, 0), 20);
    }

    private void weightsOfTheChild() {
        Due due = doc.terms("10", "Each weight of the child is that of the child's teacher, times the share, divided "
            + "by 100");
        int[] shares = {0, 33, 99, 100};
        for (int share : shares) {
            GesturePidgin x = Due.village(2);
            x.set(3, share);
            x.teach(0, 3, 7, 99);
            x.teach(1, 0, 0, 99);
            x.teach(1, 5, 13, 1);
            x.teach(1, 2, 6, 50);
            x.setAge(0, 60);
            x.age(1);
            due.is("99 * " + share + " / 100", x.weight(0, 0, 0), 99 * share / 100);
            due.is("1 * " + share + " / 100", x.weight(0, 5, 13), share / 100);
            due.is("50 * " + share + " / 100", x.weight(0, 2, 6), share / 2);
            due.is("no weight of the one before", x.weight(0, 3, 7), 0);
        }
    }

    private static GesturePidgin ages(int... ages) {
        GesturePidgin x = Due.village(ages.length);
        x.set(3, 100);
        for (int speaker = 0; speaker < ages.length; speaker++) {
            x.setAge(speaker, ages[speaker]);
            x.teach(speaker, 0, 0, 10 + speaker);
        }
        x.age(1);
        return x;
    }

    private void theTeacher() {
        Due due = doc.terms("10", "The teacher is the youngest one of the other speakers who are not older than the "
            + "life, of several the lowest (children of this year included)");
        due.is("the youngest, behind", ages(99, 31, 30).weight(0, 0, 0), 12);
        due.is("the youngest, ahead", ages(30, 31, 99).weight(2, 0, 0), 10);
        due.is("of several the lowest", ages(31, 30, 30, 99, 30).weight(3, 0, 0), 11);
        due.is("as old as the life", ages(99, 59).weight(0, 0, 0), 11);
        due.is("no one older than the life", ages(99, 60).weight(0, 0, 0), 0);
        GesturePidgin x = ages(99, 0, 99);
        due.is("the first child learns from 1", x.weight(0, 0, 0), 11);
        due.is("the second one from the first", x.weight(2, 0, 0), 11);
        GesturePidgin y = Due.village(3);
        y.teach(1, 0, 0, 99);
        y.setAge(0, 99);
        y.setAge(2, 99);
        y.age(1);
        due.is("half of it", y.weight(0, 0, 0), 49);
        due.is("a child of this year teaches half of the half", y.weight(2, 0, 0), 24);
        GesturePidgin z = ages(99, 99);
        due.is("a child that follows somebody isn't the one's own teacher", z.count(6), 0);
    }

    private void withoutATeacher() {
        Due due = doc.terms("10", "without a teacher all weights are 0");
        GesturePidgin alone = ages(60);
        due.is("alone", alone.weight(0, 0, 0), 0);
        due.is("alone, the age", alone.speaker(0, 0), 0);
        due.is("alone, all weights", alone.count(6), 0);
        due.is("all others too old", ages(60, 60, 60).weight(0, 0, 0), 0);
        GesturePidgin x = Due.village(3);
        x.teach(1, 0, 0, 99);
        x.go(1);
        x.go(2);
        x.teach(0, 5, 13, 99);
        x.setAge(0, 99);
        x.age(1);
        due.is("the others are gone", x.count(6), 0);
    }

    private void agreement() {
        Due due = doc.terms("18", "Two speakers agree about a meaning if both have the same word for it");
        GesturePidgin x = Due.village(2);
        due.is("without words", x.agreement(0, 1, 0), 0);
        x.teach(0, 0, 0, 1);
        due.is("a word of one alone", x.agreement(0, 1, 0), 0);
        x.teach(1, 0, 1, 99);
        due.is("two words", x.agreement(0, 1, 0), 0);
        x.teach(1, 1, 0, 99);
        due.is("the same word for two meanings", x.agreement(0, 1, 0), 0);
        x.teach(1, 0, 0, 99);
        due.is("the same word", x.agreement(0, 1, 0), 1);
        for (int meaning = 0; meaning < 6; meaning++) {
            x.teach(0, meaning, 13, 99);
            x.teach(1, meaning, 13, 99);
            x.teach(1, meaning, 1, 0);
            x.teach(1, meaning, 0, 0);
        }
        due.is("about all meanings", x.agreement(0, 1, 0), 6);
    }

    private void understanding() {
        Due due = doc.terms("19", "The understanding of a speaker by another one is the number of meanings for which "
            + "the first has a word that the second hears as this meaning");
        GesturePidgin x = Due.village(2);
        due.is("without words", x.understanding(0, 1), 0);
        x.teach(1, 0, 0, 9);
        due.is("a meaning without a word", x.understanding(0, 1), 0);
        x.teach(0, 0, 1, 9);
        due.is("a word heard as nothing", x.understanding(0, 1), 0);
        x.teach(1, 3, 1, 9);
        due.is("a word heard as another meaning", x.understanding(0, 1), 0);
        x.teach(0, 0, 0, 10);
        due.is("a word heard as this meaning", x.understanding(0, 1), 1);
        due.is("the other way round", x.understanding(1, 0), 1);
        x.teach(1, 0, 2, 99);
        due.is("it needn't be the word of the second", x.understanding(0, 1), 1);
        due.is("the other way round it is heard as nothing", x.understanding(1, 0), 0);
        for (int meaning = 0; meaning < 6; meaning++) {
            x.teach(0, meaning, 13 - meaning, 99);
            x.teach(1, meaning, 13 - meaning, 1);
        }
        due.is("all meanings", x.understanding(0, 1), 6);
    }
}
