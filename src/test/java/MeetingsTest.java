/** Promises 8 to 10: meetings, chance meetings and years. */
public final class MeetingsTest {
    private static final Due due = new Due();

    public static void main(String[] args) {
        promise08Refusals();
        promise08Success();
        promise08Failure();
        promise08DrawnWordAndMeaning();
        promise08WhatSpeakersLearn();
        promise08Limits();
        promise09Refusals();
        promise09WhoMeets();
        promise09DrawsOfTwoSpeakers();
        promise10Refusals();
        promise10Children();
        promise10ChildrenOfTheSameYearTeach();
        promise10ManyYears();
        due.end();
    }

    private static int nextSeed(int seed) {
        return (int) ((25173L * seed + 13849L) % 65536L);
    }

    private static void promise08Refusals() {
        GesturePidgin x = Due.village(3);
        x.go(1);
        due.refused(x, "meet(1, 0, 0)", () -> x.meet(1, 0, 0), GesturePidgin.NO_SUCH);
        due.refused(x, "meet(0, 1, 0)", () -> x.meet(0, 1, 0), GesturePidgin.NO_SUCH);
        due.refused(x, "meet(1, 1, 0)", () -> x.meet(1, 1, 0), GesturePidgin.NO_SUCH);
        due.refused(x, "meet(0, 8, 0)", () -> x.meet(0, 8, 0), GesturePidgin.NO_SUCH);
        due.refused(x, "meet(-1, 0, 0)", () -> x.meet(-1, 0, 0), GesturePidgin.NO_SUCH);
        due.refused(x, "meet(0, 2, 6)", () -> x.meet(0, 2, 6), GesturePidgin.NO_SUCH);
        due.refused(x, "meet(0, 0, -1)", () -> x.meet(0, 0, -1), GesturePidgin.NO_SUCH);
        due.refused(x, "meet(2, 2, 5)", () -> x.meet(2, 2, 5), GesturePidgin.NOT_POSSIBLE);
        due.is("no refusal is saved", Due.undoAll(x), 4);
    }

    private static void promise08Success() {
        GesturePidgin x = Due.village(2);
        x.set(1, 2);
        x.teach(0, 2, 5, 50);
        x.teach(0, 2, 6, 20);
        x.teach(0, 2, 13, 1);
        x.teach(0, 4, 5, 30);
        x.teach(1, 2, 5, 40);
        x.teach(1, 2, 0, 60);
        x.teach(1, 3, 5, 39);
        x.teach(1, 5, 5, 1);
        x.teach(1, 3, 0, 10);
        x.teach(1, 0, 5, 8);
        long before = x.digest();
        due.is("meet(0, 1, 2)", x.meet(0, 1, 2), 52);
        due.is("said word of the sayer", x.weight(0, 2, 5), 54);
        due.is("other word of the sayer", x.weight(0, 2, 6), 18);
        due.is("no weight below 0", x.weight(0, 2, 13), 0);
        due.is("other meaning of the sayer stays", x.weight(0, 4, 5), 30);
        due.is("said word of the hearer", x.weight(1, 2, 5), 44);
        due.is("other word of the hearer", x.weight(1, 2, 0), 58);
        due.is("other meaning of the hearer", x.weight(1, 3, 5), 37);
        due.is("other meaning of the hearer, not below 0", x.weight(1, 5, 5), 0);
        due.is("the first meaning of the hearer", x.weight(1, 0, 5), 6);
        due.is("other word for another meaning stays", x.weight(1, 3, 0), 10);
        due.is("nothing is drawn", x.count(1), 1);
        due.is("meetings", x.count(2), 1);
        due.is("successes", x.count(3), 1);
        due.is("meetings of the sayer", x.speaker(0, 4), 1);
        due.is("meetings of the hearer", x.speaker(1, 4), 1);
        due.is("undo()", x.undo(), 5);
        due.is("digest() undone", x.digest(), before);
    }

    private static void promise08Failure() {
        GesturePidgin x = Due.village(2);
        x.set(1, 3);
        x.teach(0, 2, 5, 50);
        x.teach(0, 2, 6, 20);
        x.teach(1, 1, 5, 40);
        x.teach(1, 4, 5, 40);
        x.teach(1, 2, 6, 7);
        due.is("meet(0, 1, 2), heard as the lowest of the greatest", x.meet(0, 1, 2), 51);
        due.is("said word of the sayer", x.weight(0, 2, 5), 47);
        due.is("other word of the sayer stays", x.weight(0, 2, 6), 20);
        due.is("said word of the hearer", x.weight(1, 2, 5), 1);
        due.is("the meaning as which it was taken", x.weight(1, 1, 5), 37);
        due.is("another meaning stays", x.weight(1, 4, 5), 40);
        due.is("another word stays", x.weight(1, 2, 6), 7);
        due.is("meetings", x.count(2), 1);
        due.is("successes", x.count(3), 0);
        due.is("meetings of the sayer", x.speaker(0, 4), 1);
        due.is("meetings of the hearer", x.speaker(1, 4), 1);
        due.is("sum of the weights", x.count(6), 47 + 20 + 1 + 37 + 40 + 7);
    }

    private static void promise08DrawnWordAndMeaning() {
        GesturePidgin x = Due.village(2);
        int first = nextSeed(1);
        int second = nextSeed(first);
        int word = first / 16 % 14;
        int heard = second / 16 % 6;
        due.is("the word is drawn first", x.meet(0, 1, 0), 10 * word + heard);
        due.is("seed after two draws", x.count(1), second);
        due.is("a failure gives the hearer 1", x.weight(1, 0, word), 1);
        due.is("the sayer stays at 0", x.weight(0, 0, word), 0);

        GesturePidgin y = Due.village(2);
        due.is("a drawn meaning may be right", y.meet(0, 1, heard), 10 * word + heard);
        due.is("the sayer learns", y.weight(0, heard, word), 4);
        due.is("the hearer learns", y.weight(1, heard, word), 4);

        GesturePidgin z = Due.village(2);
        z.teach(0, 3, 9, 1);
        due.is("only the meaning is drawn", z.meet(0, 1, 3), 90 + first / 16 % 6);
        due.is("seed after one draw", z.count(1), first);

        GesturePidgin w = Due.village(2);
        w.teach(1, 3, word, 1);
        due.is("only the word is drawn", w.meet(0, 1, 5), 10 * word + 3);
        due.is("seed after one draw", w.count(1), first);
    }

    private static void promise08WhatSpeakersLearn() {
        GesturePidgin x = Due.village(2);
        x.set(0, 3);
        x.setAge(0, 39);
        x.setAge(1, 60);
        x.teach(0, 0, 0, 10);
        x.teach(1, 0, 0, 10);
        due.is("meet(0, 1, 0)", x.meet(0, 1, 0), 0);
        due.is("gain 3 at 39", x.weight(0, 0, 0), 12);
        due.is("at least 1 at 60", x.weight(1, 0, 0), 11);
        x.teach(1, 1, 0, 90);
        due.is("meet(0, 1, 0) fails", x.meet(0, 1, 0), 1);
        due.is("a failure gives 1", x.weight(1, 0, 0), 12);
    }

    private static void promise08Limits() {
        GesturePidgin x = Due.village(2);
        x.set(1, 9);
        x.teach(0, 0, 0, 97);
        x.teach(0, 0, 1, 8);
        x.teach(1, 0, 0, 99);
        x.meet(0, 1, 0);
        due.is("not above 99", x.weight(0, 0, 0), 99);
        due.is("not above 99 for the hearer", x.weight(1, 0, 0), 99);
        due.is("not below 0", x.weight(0, 0, 1), 0);
        x.teach(0, 0, 0, 5);
        x.teach(1, 0, 0, 99);
        x.teach(1, 0, 1, 0);
        x.teach(0, 1, 0, 7);
        x.meet(0, 1, 1);
        due.is("a failure not below 0", x.weight(0, 1, 0), 0);
    }

    private static void promise09Refusals() {
        GesturePidgin x = new GesturePidgin();
        for (int speakers = 0; speakers < 2; speakers++) {
            due.refused(x, "chat(0)", () -> x.chat(0), GesturePidgin.BAD_VALUE);
            due.refused(x, "chat(-1)", () -> x.chat(-1), GesturePidgin.BAD_VALUE);
            due.refused(x, "chat(201)", () -> x.chat(201), GesturePidgin.BAD_VALUE);
            due.refused(x, "chat(1)", () -> x.chat(1), GesturePidgin.NOT_POSSIBLE);
            due.refused(x, "chat(200)", () -> x.chat(200), GesturePidgin.NOT_POSSIBLE);
            x.come();
        }
        due.is("no refusal is saved", Due.undoAll(x), 2);
    }

    /** All speak the same words, so that each meeting succeeds and draws only who meets and what is meant. */
    private static void promise09WhoMeets() {
        GesturePidgin x = Due.village(6);
        x.go(1);
        x.go(4);
        int[] numbers = {0, 2, 3, 5};
        for (int number : numbers) {
            for (int meaning = 0; meaning < 6; meaning++) {
                x.teach(number, meaning, meaning, 50);
            }
        }
        x.setSeed(4711);
        int[] took = new int[6];
        int seed = 4711;
        for (int meeting = 0; meeting < 200; meeting++) {
            seed = nextSeed(seed);
            int sayer = seed / 16 % 4;
            seed = nextSeed(seed);
            int hearer = seed / 16 % 3;
            if (hearer >= sayer) {
                hearer++;
            }
            seed = nextSeed(seed);
            took[numbers[sayer]]++;
            took[numbers[hearer]]++;
        }
        long before = x.digest();
        due.is("chat(200)", x.chat(200), 200);
        due.is("count(1)", x.count(1), seed);
        due.is("count(2)", x.count(2), 200);
        due.is("count(3)", x.count(3), 200);
        for (int number : numbers) {
            due.is("meetings of " + number, x.speaker(number, 4), took[number]);
        }
        due.is("undo()", x.undo(), 5);
        due.is("one undo for the whole chat", x.digest(), before);
        x.chat(7);
        due.is("only the meetings of this chat", x.chat(5), 5);
    }

    private static void promise09DrawsOfTwoSpeakers() {
        GesturePidgin x = Due.village(2);
        int seed = 1;
        int[] draws = new int[5];
        for (int i = 0; i < 5; i++) {
            seed = nextSeed(seed);
            draws[i] = seed / 16;
        }
        int sayer = draws[0] % 2;
        int meaning = draws[2] % 6;
        int word = draws[3] % 14;
        int heard = draws[4] % 6;
        due.is("chat(1)", x.chat(1), heard == meaning ? 1 : 0);
        due.is("seed after five draws, one below 1 included", x.count(1), seed);
        due.is("the hearer has the word", x.weight(1 - sayer, meaning, word), heard == meaning ? 4 : 1);
    }

    private static void promise10Refusals() {
        GesturePidgin x = Due.village(1);
        due.refused(x, "age(0)", () -> x.age(0), GesturePidgin.BAD_VALUE);
        due.refused(x, "age(-1)", () -> x.age(-1), GesturePidgin.BAD_VALUE);
        due.refused(x, "age(100)", () -> x.age(100), GesturePidgin.BAD_VALUE);
        due.is("no refusal is saved", Due.undoAll(x), 1);
        GesturePidgin empty = new GesturePidgin();
        due.is("years pass without speakers", empty.age(99), 0);
        due.is("count(5)", empty.count(5), 99);
        due.is("it is saved", empty.undo(), 0);
        due.is("count(5) undone", empty.count(5), 0);
    }

    private static void promise10Children() {
        GesturePidgin x = Due.village(4);
        x.set(3, 33);
        x.teach(0, 0, 0, 80);
        x.teach(1, 0, 0, 10);
        x.teach(2, 0, 0, 99);
        x.teach(2, 5, 13, 2);
        x.teach(3, 0, 0, 50);
        x.meet(0, 1, 0);
        x.teach(2, 0, 0, 99);
        x.setAge(0, 60);
        x.setAge(1, 59);
        x.setAge(2, 20);
        x.setAge(3, 20);
        due.is("age(1)", x.age(1), 1);
        due.is("the child's age", x.speaker(0, 0), 0);
        due.is("the child's meetings", x.speaker(0, 4), 0);
        due.is("a third of the youngest one's weight, the lowest of several", x.weight(0, 0, 0), 32);
        due.is("a third of 2", x.weight(0, 5, 13), 0);
        due.is("at the life no child", x.speaker(1, 0), 60);
        due.is("meetings of the other", x.speaker(1, 4), 1);
        due.is("the teacher's age", x.speaker(2, 0), 21);
        due.is("the teacher's weight", x.weight(2, 0, 0), 99);
        due.is("count(4)", x.count(4), 1);
        due.is("count(5)", x.count(5), 1);
        due.is("undo()", x.undo(), 5);
        due.is("the age before", x.speaker(0, 0), 60);
        due.is("count(5) undone", x.count(5), 0);
    }

    private static void promise10ChildrenOfTheSameYearTeach() {
        GesturePidgin x = Due.village(3);
        x.set(3, 50);
        x.teach(2, 1, 1, 99);
        x.setAge(0, 99);
        x.setAge(1, 99);
        x.setAge(2, 10);
        due.is("age(1)", x.age(1), 2);
        due.is("taught by speaker 2", x.weight(0, 1, 1), 49);
        due.is("taught by the child of this year", x.weight(1, 1, 1), 24);

        GesturePidgin y = Due.village(2);
        y.teach(0, 1, 1, 40);
        y.teach(1, 1, 1, 99);
        y.setAge(0, 99);
        y.setAge(1, 99);
        due.is("age(1)", y.age(1), 2);
        due.is("no teacher who is too old, too", y.weight(0, 1, 1), 0);
        due.is("taught by a child without habits", y.weight(1, 1, 1), 0);

        GesturePidgin z = Due.village(2);
        z.teach(1, 2, 3, 80);
        z.setAge(0, 60);
        z.setAge(1, 59);
        due.is("age(1)", z.age(1), 1);
        due.is("a teacher as old as the life", z.weight(0, 2, 3), 40);
    }

    private static void promise10ManyYears() {
        GesturePidgin x = Due.village(1);
        x.set(2, 5);
        x.teach(0, 0, 0, 99);
        due.is("age(5)", x.age(5), 0);
        due.is("the age", x.speaker(0, 0), 5);
        due.is("age(99)", x.age(99), 17);
        due.is("the age", x.speaker(0, 0), (5 + 99) % 6);
        due.is("alone there is no teacher", x.count(6), 0);
        due.is("count(4)", x.count(4), 17);
        due.is("count(5)", x.count(5), 104);
        due.is("one undo for all years", x.undo(), 4);
        due.is("the age before", x.speaker(0, 0), 5);
        due.is("count(4) undone", x.count(4), 0);
        due.is("age(1)", x.age(1), 1);
        due.is("only the children of this call", x.age(6), 1);
        due.is("all children", x.count(4), 2);
    }
}
