import java.math.BigInteger;
import java.util.ArrayList;
import java.util.List;

/** A test for each sentence of promises 28 and 29: undo and digest. */
public final class UndoSentencesTest {
    private static final Sentences doc = new Sentences("Promise 28", "Promise 29");

    public static void main(String[] args) {
        promise28Restores();
        promise28Discards();
        promise28NumberLeft();
        promise28NotPossible();
        promise29Starts();
        promise29Overflow();
        promise29Counts();
        promise29Settings();
        promise29Speakers();
        promise29Common();
        promise29Pairs();
        promise29Hash();
        doc.end();
    }

    private static void promise28Restores() {
        Due due = doc.promise(28, "Restores the state that was saved last");
        GesturePidgin x = new GesturePidgin();
        long[] digests = new long[20];
        for (int call = 0; call < 20; call++) {
            digests[call] = x.digest();
            x.age(call + 1);
        }
        for (int call = 19; call >= 14; call--) {
            x.undo();
            due.is("digest() after undo()", x.digest(), digests[call]);
        }
        x.undo();
        due.is("no seventh state", x.digest(), digests[14]);
        GesturePidgin y = Look.rich();
        y.come();
        due.is("undo() as the first of several", y.undo(), 3);
        due.is("the one who came is gone", y.speaker(2, 0), GesturePidgin.NO_SUCH);
        due.is("the one who was there is there", y.speaker(3, 0), Look.rich().speaker(3, 0));
    }

    private static void promise28Discards() {
        Due due = doc.promise(28, "and discards it from the saved states");
        GesturePidgin x = new GesturePidgin();
        x.setSeed(10);
        x.setSeed(11);
        x.undo();
        due.is("the last one", x.count(1), 10);
        x.undo();
        due.is("the one before", x.count(1), 1);
        due.is("none is left", x.undo(), GesturePidgin.NOT_POSSIBLE);
        for (int seed = 20; seed < 26; seed++) {
            x.setSeed(seed);
            x.undo();
        }
        due.is("what was undone isn't kept", x.undo(), GesturePidgin.NOT_POSSIBLE);
        due.is("undo() is not undoable", x.count(1), 1);
    }

    private static void promise28NumberLeft() {
        Due due = doc.promise(28, "Returns the number of saved states that are left");
        for (int calls = 1; calls < 9; calls++) {
            GesturePidgin x = new GesturePidgin();
            for (int call = 0; call < calls; call++) {
                x.setSeed(call);
            }
            for (int left = Math.min(6, calls) - 1; left >= 0; left--) {
                due.is("undo() after " + calls + " calls", x.undo(), left);
            }
        }
    }

    private static void promise28NotPossible() {
        Due due = doc.promise(28, "NOT_POSSIBLE if no state is saved");
        due.refuses(GesturePidgin::new, "undo()", GesturePidgin::undo, GesturePidgin.NOT_POSSIBLE);
        due.refuses(() -> {
            GesturePidgin x = Due.village(8);
            Due.undoAll(x);
            x.type('0');
            return x;
        }, "undo() after all are undone", GesturePidgin::undo, GesturePidgin.NOT_POSSIBLE);
        GesturePidgin y = Due.village(8);
        due.is("six can be undone", Due.undoAll(y), 6);
        due.is("two speakers are left", y.count(0), 2);
        y.go(9);
        y.meet(0, 0, 0);
        y.ifChat(5);
        due.is("refused calls and forecasts save none", y.undo(), GesturePidgin.NOT_POSSIBLE);
    }

    /** The list of which the document tells, as the other calls answer it: for 8 speakers by 197 of the 512 calls. */
    private static List<Integer> list(GesturePidgin x) {
        List<Integer> list = new ArrayList<>();
        for (int what = 0; what < 7; what++) {
            list.add(x.count(what));
        }
        for (int setting = 0; setting < 4; setting++) {
            list.add(x.setting(setting));
        }
        for (int speaker = 0; speaker < 8; speaker++) {
            if (x.speaker(speaker, 0) >= 0) {
                addSpeaker(x, speaker, list);
            }
        }
        for (int meaning = 0; meaning < 6; meaning++) {
            list.add(x.common(meaning));
        }
        for (int lower = 0; lower < 8; lower++) {
            for (int higher = lower + 1; higher < 8; higher++) {
                if (x.agreement(lower, higher, 0) >= 0) {
                    list.add(x.agreement(lower, higher, 1));
                    list.add(x.understanding(lower, higher));
                }
            }
        }
        return list;
    }

    private static void addSpeaker(GesturePidgin x, int speaker, List<Integer> list) {
        list.add(speaker);
        for (int what = 0; what < 5; what++) {
            list.add(x.speaker(speaker, what));
        }
        for (int meaning = 0; meaning < 6; meaning++) {
            list.add(x.wordOf(speaker, meaning));
        }
    }

    /** The hash without a limit to its size; longValue() of it is what long arithmetic leaves. */
    private static BigInteger hash(List<Integer> list) {
        BigInteger hash = BigInteger.valueOf(473);
        for (int value : list) {
            hash = hash.multiply(BigInteger.valueOf(31)).add(BigInteger.valueOf(value));
        }
        return hash;
    }

    private static void check(Due due, String village, GesturePidgin x) {
        due.is("digest() of " + village, x.digest(), hash(list(x)).longValue());
    }

    private static void promise29Starts() {
        Due due = doc.promise(29, "The hash starts at 473");
        List<Integer> empty = List.of(0, 1, 0, 0, 0, 0, 0, 4, 1, 60, 50, -6, -6, -6, -6, -6, -6);
        due.is("digest() of a new village", new GesturePidgin().digest(), hash(empty).longValue());
    }

    private static void promise29Overflow() {
        Due due = doc.promise(29, "For each value v of the following list, in order, the hash becomes 31 * hash + v, "
            + "in long arithmetic with overflow", "Computes a hash of the state");
        GesturePidgin x = Due.village(8);
        boolean negative = false;
        boolean positive = false;
        for (int seed = 0; seed < 65536; seed += 6553) {
            x.setSeed(seed);
            BigInteger hash = hash(list(x).subList(0, 11 + 8 * 12 + 6 + 28 * 2));
            due.holds("the hash is far greater than a long", hash.bitLength() > 640);
            due.is("digest() with seed " + seed, x.digest(), hash.longValue());
            negative |= x.digest() < 0;
            positive |= x.digest() > 0;
            x = Due.village(8);
        }
        due.holds("the overflow makes some negative, some positive", negative && positive);
    }

    private static void promise29Counts() {
        Due due = doc.promise(29, "The list is: count(0) to count(6)");
        check(due, "nobody, all 0 but the seed", new GesturePidgin());
        GesturePidgin x = Look.rich();
        for (int what = 0; what < 7; what++) {
            due.holds("count(" + what + ") isn't 0", x.count(what) != 0);
        }
        check(due, "three speakers", x);
        GesturePidgin y = Due.village(1);
        y.teach(0, 0, 0, 9);
        long before = y.digest();
        y.teach(0, 0, 1, 1);
        due.holds("only count(6) tells a weight that makes no word", y.digest() != before);
        check(due, "a speaker with two weights", y);
    }

    private static void promise29Settings() {
        Due due = doc.promise(29, "setting(0) to setting(3)");
        GesturePidgin x = new GesturePidgin();
        int[] values = {9, 0, 99, 100};
        for (int setting = 0; setting < 4; setting++) {
            x.set(setting, values[setting]);
            check(due, "changed setting " + setting, x);
        }
    }

    private static void promise29Speakers() {
        Due due = doc.promise(29, "for each speaker, by ascending numbers, the number, the speaker's numbers 0 to 4, "
            + "and for each meaning the speaker's word");
        GesturePidgin x = Due.village(8);
        check(due, "eight speakers without words", x);
        for (int speaker = 0; speaker < 8; speaker++) {
            x.setAge(speaker, 12 * speaker);
            x.teach(speaker, speaker % 6, speaker, 9);
            x.teach(speaker, (speaker + 1) % 6, 13, 9);
        }
        x.meet(0, 7, 0);
        check(due, "eight speakers", x);
        GesturePidgin y = Due.village(8);
        for (int speaker = 0; speaker < 7; speaker++) {
            y.go(speaker);
        }
        y.teach(7, 0, 5, 9);
        y.teach(7, 5, 5, 9);
        y.setAge(7, 41);
        List<Integer> alone = List.of(1, 1, 0, 0, 0, 0, 18, 4, 1, 60, 50,
            7, 41, 2, 2, 1, 0, 5, -6, -6, -6, -6, 5, 5, -6, -6, -6, -6, 5);
        due.is("digest() of speaker 7 alone", y.digest(), hash(alone).longValue());
        GesturePidgin z = Due.village(3);
        z.go(0);
        z.go(1);
        z.come();
        z.setAge(2, 10);
        check(due, "the one who came last has the lowest number", z);
    }

    private static void promise29Common() {
        Due due = doc.promise(29, "common(0) to common(5)");
        check(due, "no speakers, all NONE", new GesturePidgin());
        GesturePidgin x = Due.village(3);
        for (int meaning = 0; meaning < 6; meaning++) {
            x.teach(0, meaning, 13 - meaning, 9);
            x.teach(1, meaning, meaning, 9);
            x.teach(2, meaning, 13 - meaning, 9);
        }
        due.is("common(0)", x.common(0), 13);
        due.is("common(5)", x.common(5), 8);
        check(due, "three speakers with six common words", x);
    }

    private static void promise29Pairs() {
        Due due = doc.promise(29, "for each two speakers, the lower one first, by ascending numbers, agreement() and "
            + "understanding() of the lower one by the other one");
        check(due, "one speaker, no pair", Due.village(1));
        GesturePidgin x = Due.village(2);
        x.teach(0, 0, 0, 9);
        x.teach(1, 0, 0, 9);
        x.teach(1, 1, 0, 10);
        x.teach(1, 2, 2, 9);
        x.teach(0, 2, 2, 8);
        x.teach(0, 2, 3, 9);
        x.teach(0, 1, 1, 9);
        due.holds("the two understandings differ", x.understanding(0, 1) != x.understanding(1, 0));
        check(due, "two speakers", x);
        GesturePidgin y = Due.village(8);
        for (int speaker = 0; speaker < 8; speaker++) {
            for (int meaning = 0; meaning <= speaker % 6; meaning++) {
                y.teach(speaker, meaning, meaning + speaker / 6, 9);
            }
        }
        check(due, "eight speakers, 28 pairs", y);
    }

    private static void promise29Hash() {
        Due due = doc.promise(29, "Returns the hash");
        GesturePidgin x = Look.rich();
        long hash = hash(list(Look.rich())).longValue();
        due.is("digest()", x.digest(), hash);
        due.is("digest() again", x.digest(), hash);
        due.is("the text isn't of the state", x.clearText(), 18);
        due.is("digest() without the text", x.digest(), hash);
        due.leavesAll(Look::rich, "digest()", y -> (int) y.digest());
    }
}
