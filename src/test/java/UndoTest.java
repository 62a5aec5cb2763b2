import java.util.function.IntSupplier;

/** Promises 28 and 29: undo and digest. */
public final class UndoTest {
    private static final Due due = new Due();

    public static void main(String[] args) {
        promise28EveryUndoableCall();
        promise28AtMostSixStates();
        promise28WhatIsNotSaved();
        promise28SaysTheSameAgain();
        promise29EmptyVillage();
        promise29OneSpeaker();
        promise29EachValueCounts();
        due.end();
    }

    private static void promise28EveryUndoableCall() {
        GesturePidgin x = Due.village(3);
        x.teach(0, 0, 0, 9);
        x.setAge(2, 60);
        String[] names = {"come", "go", "set", "setSeed", "teach", "setAge", "meet", "chat", "age", "learn"};
        IntSupplier[] calls = {x::come, () -> x.go(0), () -> x.set(3, 1), () -> x.setSeed(5),
            () -> x.teach(1, 1, 1, 1), () -> x.setAge(1, 1), () -> x.meet(0, 1, 0), () -> x.chat(20),
            () -> x.age(3), x::learn};
        for (int i = 0; i < calls.length; i++) {
            Due.undoAll(x);
            due.is("undo() without a state", x.undo(), GesturePidgin.NOT_POSSIBLE);
            x.come();
            x.come();
            x.teach(0, 0, 0, 9);
            x.teach(0, 0, 1, 0);
            Due.typeText(x, "1.0=w*9");
            long before = x.digest();
            due.is(names[i] + " is no error", calls[i].getAsInt() >= 0 ? 1 : 0, 1);
            due.is(names[i] + " changes something", x.digest() != before ? 1 : 0, 1);
            due.is("undo() of " + names[i], x.undo(), 4);
            due.is("digest() after undo() of " + names[i], x.digest(), before);
            x.clearText();
        }
    }

    private static void promise28AtMostSixStates() {
        GesturePidgin x = new GesturePidgin();
        for (int seed = 100; seed < 120; seed++) {
            x.setSeed(seed);
        }
        for (int left = 5; left >= 0; left--) {
            due.is("undo()", x.undo(), left);
            due.is("count(1)", x.count(1), 113 + left);
        }
        due.refused(x, "undo() without a state", x::undo, GesturePidgin.NOT_POSSIBLE);
        x.setSeed(7);
        x.setSeed(8);
        due.is("undo() after new states", x.undo(), 1);
        due.is("count(1)", x.count(1), 7);
        x.setSeed(9);
        due.is("undo()", x.undo(), 1);
        due.is("undo()", x.undo(), 0);
        due.is("count(1)", x.count(1), 113);
    }

    private static void promise28WhatIsNotSaved() {
        GesturePidgin x = Due.village(2);
        x.type('a');
        x.ifMet(0, 1, 0, 0);
        x.ifChat(9);
        x.bestSayer(0);
        x.come();
        x.type('b');
        due.is("undo()", x.undo(), 2);
        due.is("the text stays", x.clearText(), 2);
        due.is("count(0)", x.count(0), 2);
        due.is("undo()", x.undo(), 1);
        due.is("undo()", x.undo(), 0);
        due.is("undo()", x.undo(), GesturePidgin.NOT_POSSIBLE);
    }

    private static void promise28SaysTheSameAgain() {
        GesturePidgin x = Due.village(4);
        int first = x.chat(50);
        long after = x.digest();
        x.undo();
        due.is("the same chat", x.chat(50), first);
        due.is("the same village", x.digest(), after);
        x.set(2, 60);
        due.is("a call without a change is saved too", x.undo(), 5);
        due.is("a meeting of the past is counted no more", x.count(2), 50);
        x.undo();
        due.is("no meeting is left", x.count(2), 0);
        due.is("no meeting of a speaker is left", x.speaker(0, 4), 0);
    }

    private static long hashOf(long... values) {
        long hash = 473;
        for (long value : values) {
            hash = 31 * hash + value;
        }
        return hash;
    }

    private static void promise29EmptyVillage() {
        GesturePidgin x = new GesturePidgin();
        long want = hashOf(0, 1, 0, 0, 0, 0, 0, 4, 1, 60, 50, -6, -6, -6, -6, -6, -6);
        due.is("digest()", x.digest(), want);
        due.is("digest() again", x.digest(), want);
        x.type('x');
        due.is("the text does not count", x.digest(), want);
        x.setSeed(2);
        x.undo();
        due.is("saved states do not count", x.digest(), want);
    }

    private static void promise29OneSpeaker() {
        GesturePidgin x = Due.village(4);
        x.go(0);
        x.go(2);
        x.teach(1, 0, 3, 9);
        x.teach(1, 5, 3, 8);
        x.teach(3, 0, 3, 7);
        x.teach(3, 5, 3, 9);
        x.teach(3, 2, 0, 9);
        x.setAge(3, 40);
        due.is("digest()", x.digest(), hashOf(2, 1, 0, 0, 0, 0, 42, 4, 1, 60, 50,
            1, 0, 4, 2, 1, 0, 3, -6, -6, -6, -6, 3,
            3, 40, 2, 3, 1, 0, 3, -6, 0, -6, -6, 3,
            3, -6, 0, -6, -6, 3,
            2, 1));
    }

    private static void promise29EachValueCounts() {
        GesturePidgin x = Due.village(3);
        x.teach(0, 0, 0, 9);
        x.teach(1, 0, 0, 9);
        x.chat(30);
        x.age(2);
        long[] list = new long[11 + 3 * 12 + 6 + 3 * 2];
        int at = 0;
        for (int what = 0; what < 7; what++) {
            list[at++] = x.count(what);
        }
        for (int setting = 0; setting < 4; setting++) {
            list[at++] = x.setting(setting);
        }
        for (int speaker = 0; speaker < 3; speaker++) {
            list[at++] = speaker;
            for (int what = 0; what < 5; what++) {
                list[at++] = x.speaker(speaker, what);
            }
            for (int meaning = 0; meaning < 6; meaning++) {
                list[at++] = x.wordOf(speaker, meaning);
            }
        }
        for (int meaning = 0; meaning < 6; meaning++) {
            list[at++] = x.common(meaning);
        }
        int[][] pairs = {{0, 1}, {0, 2}, {1, 2}};
        for (int[] pair : pairs) {
            list[at++] = x.agreement(pair[0], pair[1], 1);
            list[at++] = x.understanding(pair[0], pair[1]);
        }
        due.is("the length of the list", at, list.length);
        due.is("digest()", x.digest(), hashOf(list));
    }
}
