/** A test for each sentence of promises 21 to 23: forecasts. */
public final class ForecastsSentencesTest {
    private static final int NO_SUCH = GesturePidgin.NO_SUCH;
    private static final int BAD_VALUE = GesturePidgin.BAD_VALUE;
    private static final int NOT_POSSIBLE = GesturePidgin.NOT_POSSIBLE;
    private static final int LEAST = Integer.MIN_VALUE;
    private static final int MOST = Integer.MAX_VALUE;
    /** Numbers of no speaker in the village Look.rich(). */
    private static final int[] NOBODY = {-1, 2, 4, 7, 8, LEAST, MOST};

    private static final Sentences doc = new Sentences("Promise 21", "Promise 22", "Promise 23");

    public static void main(String[] args) {
        promise21WhatWouldCome();
        promise21Sayer();
        promise21Hearer();
        promise21Meanings();
        promise21Word();
        promise21Heard();
        promise21Success();
        promise21Agreement();
        promise21NoSuch();
        promise21BadValue();
        promise21NotPossible();
        promise22HowManySucceed();
        promise22Meetings();
        promise22BadValue();
        promise22NotPossible();
        promise23Best();
        promise23Lowest();
        promise23WhoHears();
        promise23NoSuch();
        promise23None();
        doc.end();
    }

    private static void promise21WhatWouldCome() {
        Due due = doc.promise(21, "Tells what would come of a meeting", "Returns the number");
        for (int seed = 0; seed < 20; seed++) {
            GesturePidgin x = Due.village(2);
            x.setSeed(seed);
            int[] told = new int[4];
            for (int what = 0; what < 4; what++) {
                told[what] = x.ifMet(0, 1, seed % 6, what);
            }
            int met = x.meet(0, 1, seed % 6);
            due.is("the word", told[0], met / 10);
            due.is("the meaning", told[1], met % 10);
            due.is("the success", told[2], x.count(3));
            due.is("the agreement", told[3], x.agreement(0, 1, 0));
        }
    }

    private static void promise21Sayer() {
        Due due = doc.promise(21, "`sayer`: the one who would say something");
        GesturePidgin x = Due.village(8);
        for (int sayer = 0; sayer < 8; sayer++) {
            x.teach(sayer, 3, 13 - sayer, 50);
        }
        for (int sayer = 0; sayer < 8; sayer++) {
            due.is("the word of " + sayer, x.ifMet(sayer, (sayer + 1) % 8, 3, 0), 13 - sayer);
        }
    }

    private static void promise21Hearer() {
        Due due = doc.promise(21, "`hearer`: the one who would hear it");
        GesturePidgin x = Due.village(8);
        for (int hearer = 0; hearer < 8; hearer++) {
            x.teach(hearer, 3, 9, 50);
            x.teach(hearer, hearer % 6, 9, 60);
        }
        for (int hearer = 0; hearer < 8; hearer++) {
            due.is("the meaning of " + hearer, x.ifMet((hearer + 1) % 8, hearer, 3, 1), hearer % 6);
        }
    }

    private static void promise21Meanings() {
        Due due = doc.promise(21, "`meaning`: 0 to 5");
        GesturePidgin x = Due.village(2);
        for (int meaning = 0; meaning < 6; meaning++) {
            x.teach(0, meaning, 13 - meaning, 50);
            x.teach(1, meaning, 13 - meaning, 50);
        }
        for (int meaning = 0; meaning < 6; meaning++) {
            due.is("the word for " + meaning, x.ifMet(0, 1, meaning, 0), 13 - meaning);
            due.is("the meaning " + meaning, x.ifMet(0, 1, meaning, 1), meaning);
        }
    }

    private static void promise21Word() {
        Due due = doc.promise(21, "0 for the word");
        for (int word = 0; word < 14; word++) {
            GesturePidgin x = Due.village(2);
            x.setSeed(Chance.before(16 * word));
            due.is("a drawn word", x.ifMet(0, 1, 5, 0), word);
            x.teach(0, 5, 13 - word, 1);
            due.is("a known word", x.ifMet(0, 1, 5, 0), 13 - word);
        }
    }

    private static void promise21Heard() {
        Due due = doc.promise(21, "1 for the meaning as which it would be heard");
        for (int meaning = 0; meaning < 6; meaning++) {
            GesturePidgin x = Due.village(2);
            x.teach(0, 2, 13, 9);
            x.setSeed(Chance.before(16 * meaning));
            due.is("a drawn meaning", x.ifMet(0, 1, 2, 1), meaning);
            x.teach(1, 5 - meaning, 13, 1);
            due.is("a known meaning", x.ifMet(0, 1, 2, 1), 5 - meaning);
        }
    }

    private static void promise21Success() {
        Due due = doc.promise(21, "2 for 1 if the meeting would succeed, otherwise 0");
        for (int heard = 0; heard < 6; heard++) {
            GesturePidgin x = Due.village(2);
            x.teach(0, 0, 0, 9);
            x.teach(1, heard, 0, 9);
            due.is("0 heard as " + heard, x.ifMet(0, 1, 0, 2), heard == 0 ? 1 : 0);
        }
    }

    private static void promise21Agreement() {
        Due due = doc.promise(21, "3 for the agreement of both then");
        GesturePidgin x = Due.village(2);
        for (int meaning = 0; meaning < 6; meaning++) {
            x.teach(0, meaning, 2 * meaning, 9);
            x.teach(1, meaning, 2 * meaning, 8);
            x.teach(1, meaning, 2 * meaning + 1, 9);
        }
        for (int meaning = 0; meaning < 6; meaning++) {
            due.is("before", x.agreement(0, 1, 0), meaning);
            due.is("one more then", x.ifMet(0, 1, meaning, 3), meaning + 1);
            x.meet(0, 1, meaning);
        }
        x.teach(1, 0, 0, 99);
        due.is("all then", x.ifMet(0, 1, 0, 3), 6);
        GesturePidgin y = Due.village(2);
        y.teach(0, 0, 0, 1);
        y.teach(1, 0, 0, 1);
        y.teach(1, 1, 0, 2);
        due.is("before", y.agreement(0, 1, 0), 1);
        due.is("none then, as the word is lost", y.ifMet(0, 1, 0, 3), 0);
        due.is("still one", y.agreement(0, 1, 0), 1);
    }

    private static void promise21NoSuch() {
        Due due = doc.promise(21, "NO_SUCH if there is no such speaker or meaning");
        for (int nobody : NOBODY) {
            due.refuses(Look::rich, "ifMet(" + nobody + ", 0, 0, 0)", x -> x.ifMet(nobody, 0, 0, 0), NO_SUCH);
            due.refuses(Look::rich, "ifMet(0, " + nobody + ", 0, 3)", x -> x.ifMet(0, nobody, 0, 3), NO_SUCH);
        }
        int[] meanings = {-1, 6, LEAST, MOST};
        for (int meaning : meanings) {
            due.refuses(Look::rich, "ifMet(0, 1, " + meaning + ", 0)", x -> x.ifMet(0, 1, meaning, 0), NO_SUCH);
        }
        due.is("in an empty village", new GesturePidgin().ifMet(0, 1, 0, 0), NO_SUCH);
    }

    private static void promise21BadValue() {
        Due due = doc.promise(21, "BAD_VALUE if what is out of range");
        int[] whats = {-1, 4, LEAST, MOST};
        for (int what : whats) {
            due.refuses(Look::rich, "ifMet(0, 1, 0, " + what + ")", x -> x.ifMet(0, 1, 0, what), BAD_VALUE);
        }
    }

    private static void promise21NotPossible() {
        Due due = doc.promise(21, "NOT_POSSIBLE if both are the same");
        for (int i = 0; i < 8; i++) {
            int speaker = i;
            due.refuses(Look::full, "ifMet(" + i + ", " + i + ", 0, 0)", x -> x.ifMet(speaker, speaker, 0, 0),
                NOT_POSSIBLE);
        }
        due.is("alone", Due.village(1).ifMet(0, 0, 5, 3), NOT_POSSIBLE);
    }

    private static void promise22HowManySucceed() {
        Due due = doc.promise(22, "Tells how many of some chance meetings would succeed", "Returns the number");
        GesturePidgin x = Due.village(3);
        for (int round = 0; round < 10; round++) {
            int told = x.ifChat(30);
            due.is("told again", x.ifChat(30), told);
            due.is("chat(30)", x.chat(30), told);
        }
        GesturePidgin y = Due.village(2);
        for (int meaning = 0; meaning < 6; meaning++) {
            y.teach(0, meaning, meaning, 50);
            y.teach(1, meaning, meaning, 50);
        }
        due.is("all", y.ifChat(200), 200);
    }

    private static void promise22Meetings() {
        Due due = doc.promise(22, "`meetings`: 1 to 200");
        int[] meetings = {1, 2, 199, 200};
        for (int number : meetings) {
            GesturePidgin x = Due.village(8);
            int told = x.ifChat(number);
            due.holds("ifChat(" + number + ") is no error", told >= 0);
            due.is("chat(" + number + ")", x.chat(number), told);
        }
    }

    private static void promise22BadValue() {
        Due due = doc.promise(22, "BAD_VALUE if meetings is out of range");
        int[] meetings = {0, -1, 201, LEAST, MOST};
        for (int number : meetings) {
            due.refuses(Look::rich, "ifChat(" + number + ")", x -> x.ifChat(number), BAD_VALUE);
        }
    }

    private static void promise22NotPossible() {
        Due due = doc.promise(22, "NOT_POSSIBLE if there are fewer than 2 speakers");
        due.refuses(GesturePidgin::new, "ifChat(1) of nobody", x -> x.ifChat(1), NOT_POSSIBLE);
        due.refuses(() -> Due.village(1), "ifChat(1) of one", x -> x.ifChat(1), NOT_POSSIBLE);
        due.refuses(() -> Due.village(1), "ifChat(200) of one", x -> x.ifChat(200), NOT_POSSIBLE);
        GesturePidgin x = Due.village(2);
        due.holds("ifChat(1) of two is possible", x.ifChat(1) >= 0);
        x.go(1);
        due.is("ifChat(1) when one of two is gone", x.ifChat(1), NOT_POSSIBLE);
    }

    private static void promise23Best() {
        Due due = doc.promise(23, "Finds the speaker whom another one understands best: the one with the greatest "
            + "understanding by this speaker", "Returns another speaker");
        for (int best = 1; best < 8; best++) {
            GesturePidgin x = Due.village(8);
            x.teach(0, 0, 0, 9);
            x.teach(0, 5, 13, 9);
            for (int speaker = 1; speaker < 8; speaker++) {
                x.teach(speaker, 0, 0, 9);
            }
            x.teach(best, 5, 13, 9);
            due.is("two words against one", x.bestSayer(0), best);
        }
        GesturePidgin y = Due.village(3);
        y.teach(0, 0, 0, 9);
        y.teach(1, 0, 0, 5);
        y.teach(1, 0, 1, 9);
        y.teach(2, 0, 0, 1);
        due.is("not the one who understands", y.bestSayer(0), 2);
        due.is("never oneself, though understood best", y.bestSayer(2), 0);
    }

    private static void promise23Lowest() {
        Due due = doc.promise(23, "of several the lowest");
        GesturePidgin x = Due.village(8);
        due.is("of seven without understanding", x.bestSayer(0), 1);
        due.is("of seven without understanding, oneself the last", x.bestSayer(7), 0);
        x.teach(0, 0, 0, 9);
        x.teach(7, 0, 0, 9);
        x.teach(4, 0, 0, 9);
        due.is("of two who are understood", x.bestSayer(0), 4);
        x.go(1);
        x.go(4);
        due.is("of one who is left", x.bestSayer(0), 7);
        x.go(7);
        due.is("of those who are left, without understanding", x.bestSayer(0), 2);
    }

    private static void promise23WhoHears() {
        Due due = doc.promise(23, "`speaker`: number of the one who hears");
        GesturePidgin x = Due.village(8);
        for (int speaker = 0; speaker < 8; speaker++) {
            x.teach(speaker, 3, speaker / 2, 9);
        }
        for (int speaker = 0; speaker < 8; speaker++) {
            due.is("the other one of the same word", x.bestSayer(speaker), speaker % 2 == 0 ? speaker + 1
                : speaker - 1);
        }
    }

    private static void promise23NoSuch() {
        Due due = doc.promise(23, "NO_SUCH if there is no such speaker");
        for (int nobody : NOBODY) {
            due.refuses(Look::rich, "bestSayer(" + nobody + ")", x -> x.bestSayer(nobody), NO_SUCH);
        }
        due.is("in an empty village", new GesturePidgin().bestSayer(0), NO_SUCH);
    }

    private static void promise23None() {
        Due due = doc.promise(23, "NONE if there is no other one");
        GesturePidgin x = Due.village(1);
        due.is("alone", x.bestSayer(0), GesturePidgin.NONE);
        x.teach(0, 0, 0, 9);
        due.is("alone with a word", x.bestSayer(0), GesturePidgin.NONE);
        x.come();
        due.is("another one came", x.bestSayer(0), 1);
        x.go(0);
        due.is("alone again", x.bestSayer(1), GesturePidgin.NONE);
    }
}
