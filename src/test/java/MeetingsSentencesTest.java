/** A test for each sentence of promises 8 to 10: meetings, chance meetings and years. */
public final class MeetingsSentencesTest {
    private static final int NO_SUCH = GesturePidgin.NO_SUCH;
    private static final int BAD_VALUE = GesturePidgin.BAD_VALUE;
    private static final int NOT_POSSIBLE = GesturePidgin.NOT_POSSIBLE;
    private static final int LEAST = Integer.MIN_VALUE;
    private static final int MOST = Integer.MAX_VALUE;
    /** Numbers of no speaker in the village Look.rich(). */
    private static final int[] NOBODY = {-1, 2, 4, 7, 8, LEAST, MOST};

    private static final Sentences doc = new Sentences("Promise 8", "Promise 9", "Promise 10");

    public static void main(String[] args) {
        promise8LetsTwoMeet();
        promise8Undoable();
        promise8Sayer();
        promise8Hearer();
        promise8Meanings();
        promise8Answer();
        promise8NoSuch();
        promise8NotPossible();
        promise9ByChance();
        promise9DrawnAheadOfAllElse();
        promise9WhoSays();
        promise9WhoHears();
        promise9WhatIsMeant();
        promise9Undoable();
        promise9Meetings();
        promise9Answer();
        promise9BadValue();
        promise9NotPossible();
        promise10LetsYearsPass();
        promise10Undoable();
        promise10Years();
        promise10Answer();
        promise10BadValue();
        doc.end();
    }

    private static void promise8LetsTwoMeet() {
        Due due = doc.promise(8, "Lets two speakers meet");
        GesturePidgin x = Due.village(8);
        x.meet(7, 0, 5);
        due.is("meetings so far", x.count(2), 1);
        due.is("meetings of the first one", x.speaker(7, 4), 1);
        due.is("meetings of the second one", x.speaker(0, 4), 1);
        for (int other = 1; other < 7; other++) {
            due.is("meetings of " + other, x.speaker(other, 4), 0);
        }
    }

    private static void promise8Undoable() {
        Due due = doc.promise(8, "Undoable");
        due.undoes(Look::rich, "meet(0, 1, 0)", x -> x.meet(0, 1, 0));
        due.undoes(Look::rich, "meet(3, 1, 5)", x -> x.meet(3, 1, 5));
        due.undoes(() -> Due.village(2), "meet(1, 0, 0) with two draws", x -> x.meet(1, 0, 0));
    }

    private static void promise8Sayer() {
        Due due = doc.promise(8, "`sayer`: the one who says something");
        for (int sayer = 0; sayer < 8; sayer++) {
            GesturePidgin x = Due.village(8);
            x.set(1, 9);
            x.teach(sayer, 3, 4 + sayer, 50);
            x.teach((sayer + 1) % 8, 2, 4 + sayer, 60);
            due.is("the word of " + sayer, x.meet(sayer, (sayer + 1) % 8, 3), 10 * (4 + sayer) + 2);
            due.is("the one who says it loses", x.weight(sayer, 3, 4 + sayer), 41);
        }
    }

    private static void promise8Hearer() {
        Due due = doc.promise(8, "`hearer`: the one who hears it");
        for (int hearer = 0; hearer < 8; hearer++) {
            GesturePidgin x = Due.village(8);
            x.teach((hearer + 7) % 8, 3, 9, 50);
            x.teach(hearer, hearer % 6, 9, 50);
            due.is("the meaning of " + hearer, x.meet((hearer + 7) % 8, hearer, 3), 90 + hearer % 6);
            due.is("the one who hears it learns", x.weight(hearer, 3, 9), hearer == 3 ? 54 : 1);
        }
    }

    private static void promise8Meanings() {
        Due due = doc.promise(8, "`meaning`: 0 to 5");
        for (int meaning = 0; meaning < 6; meaning++) {
            GesturePidgin x = Due.village(2);
            x.teach(0, meaning, 13 - meaning, 50);
            x.teach(1, meaning, 13 - meaning, 50);
            due.is("meet(0, 1, " + meaning + ")", x.meet(0, 1, meaning), 10 * (13 - meaning) + meaning);
        }
    }

    private static void promise8Answer() {
        Due due = doc.promise(8, "Returns 10 * the word + the meaning as which it is heard");
        int[][] both = {{0, 0}, {0, 5}, {13, 0}, {13, 5}, {1, 0}, {12, 4}};
        for (int[] each : both) {
            GesturePidgin x = Due.village(2);
            x.teach(0, 2, each[0], 50);
            x.teach(1, each[1], each[0], 50);
            due.is("word " + each[0] + " heard as " + each[1], x.meet(0, 1, 2), 10 * each[0] + each[1]);
        }
    }

    private static void promise8NoSuch() {
        Due due = doc.promise(8, "NO_SUCH if there is no such speaker or meaning");
        for (int nobody : NOBODY) {
            due.refuses(Look::rich, "meet(" + nobody + ", 0, 0)", x -> x.meet(nobody, 0, 0), NO_SUCH);
            due.refuses(Look::rich, "meet(0, " + nobody + ", 0)", x -> x.meet(0, nobody, 0), NO_SUCH);
        }
        int[] meanings = {-1, 6, LEAST, MOST};
        for (int meaning : meanings) {
            due.refuses(Look::rich, "meet(0, 1, " + meaning + ")", x -> x.meet(0, 1, meaning), NO_SUCH);
        }
        due.refuses(GesturePidgin::new, "meet(0, 1, 0) in an empty village", x -> x.meet(0, 1, 0), NO_SUCH);
    }

    private static void promise8NotPossible() {
        Due due = doc.promise(8, "NOT_POSSIBLE if both are the same");
        for (int i = 0; i < 8; i++) {
            int speaker = i;
            due.refuses(Look::full, "meet(" + i + ", " + i + ", 0)", x -> x.meet(speaker, speaker, 0), NOT_POSSIBLE);
        }
        due.refuses(() -> Due.village(1), "meet(0, 0, 5) alone", x -> x.meet(0, 0, 5), NOT_POSSIBLE);
    }

    /** All speakers say word m for meaning m, so that each meeting succeeds and draws nothing of its own. */
    private static GesturePidgin unanimous(int speakers) {
        GesturePidgin x = Due.village(speakers);
        for (int speaker = 0; speaker < speakers; speaker++) {
            for (int meaning = 0; meaning < 6; meaning++) {
                x.teach(speaker, meaning, meaning, 50);
            }
        }
        return x;
    }

    private static void promise9ByChance() {
        Due due = doc.promise(9, "Lets speakers meet by chance");
        GesturePidgin x = unanimous(8);
        x.chat(200);
        due.is("meetings so far", x.count(2), 200);
        int took = 0;
        for (int speaker = 0; speaker < 8; speaker++) {
            due.holds(speaker + " takes part", x.speaker(speaker, 4) > 0);
            took += x.speaker(speaker, 4);
        }
        due.is("two take part in each", took, 400);
    }

    private static void promise9DrawnAheadOfAllElse() {
        Due due = doc.promise(9, "For each meeting three numbers are drawn ahead of all else");
        GesturePidgin x = unanimous(8);
        x.chat(1);
        due.is("three draws for a meeting without draws of its own", x.count(1),
            Chance.after(Chance.after(Chance.after(1))));
        for (int seed = 0; seed < 40; seed++) {
            GesturePidgin y = Due.village(2);
            y.setSeed(seed);
            int first = Chance.after(seed);
            int third = Chance.after(Chance.after(first));
            int fourth = Chance.after(third);
            int fifth = Chance.after(fourth);
            int sayer = first / 16 % 2;
            int meaning = third / 16 % 6;
            int word = fourth / 16 % 14;
            boolean succeeds = fifth / 16 % 6 == meaning;
            due.is("chat(1)", y.chat(1), succeeds ? 1 : 0);
            due.is("then the word and the heard meaning are drawn", y.count(1), fifth);
            due.is("what the hearer learns", y.weight(1 - sayer, meaning, word), succeeds ? 4 : 1);
            due.is("what the sayer learns", y.weight(sayer, meaning, word), succeeds ? 4 : 0);
        }
    }

    /** Plays the same chances by hand: who says, who hears, and what is meant, in turn for each meeting. */
    private static int[] drawn(int seed, int speakers) {
        int first = Chance.after(seed);
        int second = Chance.after(first);
        int third = Chance.after(second);
        int sayer = first / 16 % speakers;
        int hearer = second / 16 % (speakers - 1);
        return new int[] {sayer, hearer >= sayer ? hearer + 1 : hearer, third / 16 % 6};
    }

    private static void promise9WhoSays() {
        Due due = doc.promise(9, "one below the number of speakers tells the one who says something (0 for the one "
            + "with the lowest number, and so on)");
        int[] numbers = {1, 4, 6};
        boolean[] seen = new boolean[3];
        for (int seed = 0; seed < 30; seed++) {
            GesturePidgin x = Due.village(7);
            x.go(0);
            x.go(2);
            x.go(3);
            x.go(5);
            x.setSeed(seed);
            int[] who = drawn(seed, 3);
            seen[who[0]] = true;
            x.chat(1);
            for (int i = 0; i < 3; i++) {
                int met = i == who[0] || i == who[1] ? 1 : 0;
                due.is("meetings of " + numbers[i], x.speaker(numbers[i], 4), met);
            }
        }
        due.holds("the first, one between and the last were drawn", seen[0] && seen[1] && seen[2]);
        for (int place = 0; place < 8; place++) {
            GesturePidgin x = unanimous(8);
            x.setSeed(Chance.before(16 * place));
            x.setAge(place, 60);
            int[] who = drawn(x.count(1), 8);
            due.is("the place that is drawn", who[0], place);
            x.chat(1);
            due.is("of 8 the one who learns less says it", x.weight(place, who[2], who[2]), 51);
            due.is("the one who hears it", x.weight(who[1], who[2], who[2]), 54);
        }
    }

    private static void promise9WhoHears() {
        Due due = doc.promise(9, "one below the number of speakers less 1 tells the one who hears it, in the same "
            + "way among all others");
        for (int seed = 0; seed < 60; seed++) {
            GesturePidgin x = Due.village(8);
            x.setSeed(seed);
            int[] who = drawn(seed, 8);
            x.chat(1);
            for (int speaker = 0; speaker < 8; speaker++) {
                int met = speaker == who[0] || speaker == who[1] ? 1 : 0;
                due.is("of 8, seed " + seed + ": meetings of " + speaker, x.speaker(speaker, 4), met);
            }
        }
        for (int seed = 0; seed < 10; seed++) {
            GesturePidgin x = unanimous(2);
            x.setSeed(seed);
            x.setAge(1, 60);
            int[] who = drawn(seed, 2);
            due.is("of 2 the other one is left", who[1], 1 - who[0]);
            due.is("chat(1)", x.chat(1), 1);
            due.is("of 2 a number below 1 is drawn, too", x.count(1),
                Chance.after(Chance.after(Chance.after(seed))));
            due.is("what 0 learns", x.weight(0, who[2], who[2]), 54);
            due.is("what 1 learns", x.weight(1, who[2], who[2]), 51);
        }
    }

    private static void promise9WhatIsMeant() {
        Due due = doc.promise(9, "and one below 6 tells the meaning");
        boolean[] seen = new boolean[6];
        for (int seed = 0; seed < 60; seed++) {
            GesturePidgin x = unanimous(3);
            x.setSeed(seed);
            int[] who = drawn(seed, 3);
            seen[who[2]] = true;
            x.chat(1);
            for (int meaning = 0; meaning < 6; meaning++) {
                due.is("weight for " + meaning, x.weight(who[0], meaning, meaning), meaning == who[2] ? 54 : 50);
            }
        }
        for (int meaning = 0; meaning < 6; meaning++) {
            due.holds("meaning " + meaning + " was drawn", seen[meaning]);
        }
    }

    private static void promise9Undoable() {
        Due due = doc.promise(9, "Undoable");
        due.undoes(Look::rich, "chat(1)", x -> x.chat(1));
        due.undoes(Look::rich, "chat(200)", x -> x.chat(200));
    }

    private static void promise9Meetings() {
        Due due = doc.promise(9, "`meetings`: 1 to 200");
        int[] meetings = {1, 2, 199, 200};
        for (int number : meetings) {
            GesturePidgin x = Due.village(3);
            due.holds("chat(" + number + ") is no error", x.chat(number) >= 0);
            due.is("meetings so far", x.count(2), number);
        }
    }

    private static void promise9Answer() {
        Due due = doc.promise(9, "Returns the number of meetings that succeed");
        due.is("all of 200", unanimous(8).chat(200), 200);
        GesturePidgin x = unanimous(2);
        due.is("the one of 1", x.chat(1), 1);
        due.is("only those of this call", x.chat(2), 2);
        due.is("all so far", x.count(3), 3);
        GesturePidgin y = Due.village(2);
        y.set(1, 0);
        for (int meaning = 0; meaning < 6; meaning++) {
            y.teach(0, meaning, meaning, 99);
            y.teach(1, (meaning + 1) % 6, meaning, 99);
        }
        due.is("none of 40 between two who misunderstand each other", y.chat(40), 0);
        due.is("none so far", y.count(3), 0);
        GesturePidgin z = Due.village(3);
        int succeeded = z.chat(200);
        due.holds("some of 200", succeeded > 0 && succeeded < 200);
        due.is("as many as succeeded so far", z.count(3), succeeded);
    }

    private static void promise9BadValue() {
        Due due = doc.promise(9, "BAD_VALUE if meetings is out of range");
        int[] meetings = {0, -1, 201, LEAST, MOST};
        for (int number : meetings) {
            due.refuses(Look::rich, "chat(" + number + ")", x -> x.chat(number), BAD_VALUE);
        }
    }

    private static void promise9NotPossible() {
        Due due = doc.promise(9, "NOT_POSSIBLE if there are fewer than 2 speakers");
        due.refuses(GesturePidgin::new, "chat(1) of nobody", x -> x.chat(1), NOT_POSSIBLE);
        due.refuses(GesturePidgin::new, "chat(200) of nobody", x -> x.chat(200), NOT_POSSIBLE);
        due.refuses(() -> Due.village(1), "chat(1) of one", x -> x.chat(1), NOT_POSSIBLE);
        due.refuses(() -> Due.village(1), "chat(200) of one", x -> x.chat(200), NOT_POSSIBLE);
        GesturePidgin x = Due.village(2);
        due.holds("chat(1) of two is possible", x.chat(1) >= 0);
        x.go(0);
        due.is("chat(1) when one of two is gone", x.chat(1), NOT_POSSIBLE);
        x.come();
        due.holds("chat(1) of two again", x.chat(1) >= 0);
    }

    private static void promise10LetsYearsPass() {
        Due due = doc.promise(10, "Lets years pass");
        GesturePidgin x = Due.village(1);
        x.age(1);
        due.is("years after age(1)", x.count(5), 1);
        due.is("the age", x.speaker(0, 0), 1);
        x.age(59);
        due.is("years after age(59)", x.count(5), 60);
        due.is("the age at the life", x.speaker(0, 0), 60);
        x.age(1);
        due.is("the age of the child", x.speaker(0, 0), 0);
        x.age(5);
        due.is("the child gets older", x.speaker(0, 0), 5);
    }

    private static void promise10Undoable() {
        Due due = doc.promise(10, "Undoable");
        due.undoes(Look::rich, "age(1)", x -> x.age(1));
        due.undoes(Look::rich, "age(99)", x -> x.age(99));
        due.undoes(GesturePidgin::new, "age(1) in an empty village", x -> x.age(1));
    }

    private static void promise10Years() {
        Due due = doc.promise(10, "`years`: 1 to 99");
        int[] years = {1, 2, 98, 99};
        for (int number : years) {
            GesturePidgin x = Due.village(1);
            x.set(2, 99);
            due.is("age(" + number + ")", x.age(number), 0);
            due.is("years so far", x.count(5), number);
            due.is("the age", x.speaker(0, 0), number);
        }
    }

    private static void promise10Answer() {
        Due due = doc.promise(10, "Returns the number of children");
        due.is("nobody is there", new GesturePidgin().age(99), 0);
        GesturePidgin x = Due.village(8);
        due.is("nobody is too old", x.age(60), 0);
        due.is("all are too old", x.age(1), 8);
        due.is("all are young again", x.age(1), 0);
        x.set(2, 5);
        due.is("each six years, of the child of 1", x.age(98), 8 * 16);
        due.is("only those of this call", x.age(1), 0);
        due.is("all so far", x.count(4), 8 * 17);
    }

    private static void promise10BadValue() {
        Due due = doc.promise(10, "BAD_VALUE if years is out of range");
        int[] years = {0, -1, 100, LEAST, MOST};
        for (int number : years) {
            due.refuses(Look::rich, "age(" + number + ")", x -> x.age(number), BAD_VALUE);
        }
        due.refuses(GesturePidgin::new, "age(0) in an empty village", x -> x.age(0), BAD_VALUE);
    }
}
