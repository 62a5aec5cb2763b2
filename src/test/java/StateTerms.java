import java.util.function.Supplier;
import java.util.function.ToIntFunction;

/** The sentences of the section Terms about the text, undo and error codes, and how long an object is used. */
final class StateTerms {
    private static final int NO_SUCH = GesturePidgin.NO_SUCH;
    private static final int BAD_VALUE = GesturePidgin.BAD_VALUE;
    private static final int NOT_POSSIBLE = GesturePidgin.NOT_POSSIBLE;
    private static final int LIMIT = GesturePidgin.LIMIT;
    private static final int NONE = GesturePidgin.NONE;

    private final Sentences doc;

    private StateTerms(Sentences doc) {
        this.doc = doc;
    }

    static void tell(Sentences doc) {
        StateTerms terms = new StateTerms(doc);
        terms.atMostCalls();
        terms.atMostCharacters();
        terms.habitList();
        terms.savedIfNoErrorCode();
        terms.atMostSixStates();
        terms.theSeventhState();
        terms.whatTheStateIs();
        terms.refusedCallsChangeNothing();
        terms.theFirstOfSeveral();
        terms.noneIsNoErrorCode();
        terms.noSuch();
        terms.badValue();
        terms.notPossible();
        terms.limit();
        terms.badText();
        terms.none();
        terms.forecastsChangeNothing();
    }

    private void atMostCalls() {
        Due due = doc.of("What it is", " for all promises", "An object is used for at most 512 calls after it has "
            + "been made");
        GesturePidgin x = Due.village(8);
        int forecast = x.ifChat(200);
        for (int call = 10; call < 512; call++) {
            due.is("call " + call, x.ifChat(200), forecast);
        }
        due.is("call 512", x.chat(200), forecast);
        GesturePidgin y = Due.village(2);
        for (int call = 3; call < 512; call++) {
            y.chat(200);
        }
        due.is("call 512 after as many meetings as there can be", y.count(2), 509 * 200);
        GesturePidgin z = new GesturePidgin();
        for (int call = 1; call < 511; call++) {
            z.setSeed(call);
        }
        due.is("call 511 after 510 saved states", z.undo(), 5);
        due.is("call 512", z.count(1), 509);
    }

    private void atMostCharacters() {
        Due due = doc.terms("24, 25", "There is a text of at most 80 characters, which is empty initially");
        GesturePidgin x = new GesturePidgin();
        due.is("the length initially", x.clearText(), 0);
        due.is("the first fault of the empty text", new GesturePidgin().syntaxError(), 0);
        for (int length = 1; length <= 80; length++) {
            due.is("type()", x.type('w'), length);
        }
        due.is("type() to 80", x.type('w'), LIMIT);
        due.is("the length", x.clearText(), 80);
    }

    private static int errorOf(String text) {
        GesturePidgin x = new GesturePidgin();
        Due.typeText(x, text);
        return x.syntaxError();
    }

    private void habitList() {
        Due due = doc.terms("26, 27", "A habit list is a text of the form habit { \";\" habit }, where a habit is "
            + "the digit of a speaker, 0 to 7, \".\", the digit of a meaning, 0 to 5, \"=\", one to three letters "
            + "\"w\" (wink) or \"n\" (nod), \"*\", and a weight from 0 to 99 without leading zeros");
        String[] lists = {"0.0=w*0", "7.5=nnn*99", "0.0=n*9", "0.0=ww*10", "0.0=wnw*90", "0.0=w*0;0.0=w*0",
            "0.0=w*9;7.5=nnn*99;0.0=w*10", "0.0=w*1;".repeat(8) + "0.0=wwn*99"};
        for (String list : lists) {
            due.is("a list: " + list, errorOf(list), NONE);
        }
        String[] others = {"", "8.0=w*0", "0.6=w*0", "0.0=*0", "0.0=wwww*0", "0.0=x*0", "0.0=w*", "0.0=w*00",
            "0.0=w*01", "0.0=w*100", "0.0=w*-1", "0.0=w*0;", ";0.0=w*0", "0.0=w*0;;0.0=w*0", "0.0=w*0,0.0=w*0",
            "00.0=w*0", "0.00=w*0", "0,0=w*0", "0.0w*0", "0.0=w0", "0.0=W*0", ".0=w*0", "0.=w*0"};
        for (String other : others) {
            due.holds("no list: " + other, errorOf(other) != NONE);
        }
    }

    private void savedIfNoErrorCode() {
        Due due = doc.terms("2 to 10, 27", "Methods marked \"Undoable\" save the state from before the call if they "
            + "return no error code");
        saves(due, "come()", GesturePidgin::come);
        saves(due, "go(3)", x -> x.go(3));
        saves(due, "set(0, 1)", x -> x.set(0, 1));
        saves(due, "setSeed(65535)", x -> x.setSeed(65535));
        saves(due, "teach(0, 0, 0, 99)", x -> x.teach(0, 0, 0, 99));
        saves(due, "setAge(0, 99)", x -> x.setAge(0, 99));
        saves(due, "meet(0, 1, 0)", x -> x.meet(0, 1, 0));
        saves(due, "chat(200)", x -> x.chat(200));
        saves(due, "age(99)", x -> x.age(99));
        saves(due, "learn()", GesturePidgin::learn);
        savesNot(due, Look::rich, "go(2)", x -> x.go(2));
        savesNot(due, Look::rich, "set(0, 0)", x -> x.set(0, 0));
        savesNot(due, Look::rich, "setSeed(65536)", x -> x.setSeed(65536));
        savesNot(due, Look::rich, "teach(0, 0, 0, 100)", x -> x.teach(0, 0, 0, 100));
        savesNot(due, Look::rich, "setAge(0, 100)", x -> x.setAge(0, 100));
        savesNot(due, Look::rich, "meet(0, 0, 0)", x -> x.meet(0, 0, 0));
        savesNot(due, Look::rich, "chat(201)", x -> x.chat(201));
        savesNot(due, Look::rich, "age(100)", x -> x.age(100));
        savesNot(due, Look::full, "come()", GesturePidgin::come);
        savesNot(due, StateTerms::alone, "learn()", GesturePidgin::learn);
        GesturePidgin y = Due.village(2);
        y.set(0, 4);
        y.setSeed(1);
        y.teach(0, 0, 0, 0);
        y.setAge(0, 0);
        due.is("saved also where the call makes no difference", Due.undoAll(y), 6);
    }

    private static void saves(Due due, String call, ToIntFunction<GesturePidgin> done) {
        GesturePidgin x = Look.rich();
        long before = x.digest();
        due.holds(call + " answers no error code", done.applyAsInt(x) >= 0);
        due.is("undo() after " + call, x.undo(), 3);
        due.is("digest() after undo() of " + call, x.digest(), before);
    }

    private static void savesNot(Due due, Supplier<GesturePidgin> made, String call,
            ToIntFunction<GesturePidgin> refused) {
        due.holds(call + " answers an error code", refused.applyAsInt(made.get()) < 0);
        due.is("saved states after " + call, Due.undoAll(Look.after(made, refused).get()), Due.undoAll(made.get()));
    }

    /** A village of one speaker and half a habit. */
    private static GesturePidgin alone() {
        GesturePidgin x = Due.village(1);
        Due.typeText(x, "0.0=w*");
        return x;
    }

    private void atMostSixStates() {
        Due due = doc.terms("28", "At most 6 states are saved");
        GesturePidgin x = new GesturePidgin();
        due.is("none at first", x.undo(), NOT_POSSIBLE);
        for (int calls = 1; calls < 9; calls++) {
            GesturePidgin y = Due.village(calls);
            due.is("saved by " + calls + " calls", Due.undoAll(y), Math.min(6, calls));
        }
    }

    private void theSeventhState() {
        Due due = doc.terms("28", "when a seventh one is saved, the oldest one is discarded");
        GesturePidgin x = new GesturePidgin();
        for (int seed = 10; seed < 16; seed++) {
            x.setSeed(seed);
        }
        GesturePidgin y = new GesturePidgin();
        for (int seed = 10; seed < 17; seed++) {
            y.setSeed(seed);
        }
        Due.undoAll(x);
        due.is("six states: the oldest one is that of the beginning", x.count(1), 1);
        due.is("undo()", y.undo(), 5);
        due.is("the newest one", y.count(1), 15);
        Due.undoAll(y);
        due.is("seven states: the oldest one is the second", y.count(1), 10);
        for (int seed = 20; seed < 26; seed++) {
            y.setSeed(seed);
        }
        Due.undoAll(y);
        due.is("six states again: none is discarded", y.count(1), 10);
    }

    private void whatTheStateIs() {
        Due due = doc.terms("28", "The state is everything, the seed and all counts included, except the text and "
            + "the saved states");
        GesturePidgin x = Due.village(2);
        x.setAge(1, 60);
        x.setSeed(77);
        x.type('a');
        x.chat(200);
        x.age(99);
        x.type('b');
        due.is("undo() of the years", x.undo(), 5);
        due.is("years", x.count(5), 0);
        due.is("children", x.count(4), 0);
        due.is("age", x.speaker(1, 0), 60);
        due.is("meetings", x.count(2), 200);
        due.is("meetings of a speaker", x.speaker(0, 4), 200);
        due.is("undo() of the meetings", x.undo(), 4);
        due.is("seed", x.count(1), 77);
        due.is("meetings", x.count(2), 0);
        due.is("successes", x.count(3), 0);
        due.is("weights", x.count(6), 0);
        due.is("meetings of a speaker", x.speaker(0, 4), 0);
        due.is("undo() does not bring the saved states back", x.undo(), 3);
        due.is("nor does it take characters from the text", x.clearText(), 2);
        due.is("undo() of the age", x.undo(), 2);
        due.is("nor does it bring the text back", x.clearText(), 0);
        for (int setting = 0; setting < 4; setting++) {
            int before = x.setting(setting);
            x.set(setting, 7);
            x.undo();
            due.is("setting " + setting, x.setting(setting), before);
        }
    }

    private interface Refusals {
        void is(String call, ToIntFunction<GesturePidgin> refusal, int code);
    }

    /** Each error code of each method, in a village of speakers 0, 1 and 3 with a text and saved states. */
    private static void eachRefusal(Refusals due) {
        due.is("go(2)", x -> x.go(2), NO_SUCH);
        due.is("set(4, 1)", x -> x.set(4, 1), NO_SUCH);
        due.is("set(0, 10)", x -> x.set(0, 10), BAD_VALUE);
        due.is("setSeed(65536)", x -> x.setSeed(65536), BAD_VALUE);
        due.is("teach(2, 0, 0, 1)", x -> x.teach(2, 0, 0, 1), NO_SUCH);
        due.is("teach(0, 6, 0, 1)", x -> x.teach(0, 6, 0, 1), NO_SUCH);
        due.is("teach(0, 0, 14, 1)", x -> x.teach(0, 0, 14, 1), NO_SUCH);
        due.is("teach(0, 0, 0, 100)", x -> x.teach(0, 0, 0, 100), BAD_VALUE);
        due.is("setAge(2, 1)", x -> x.setAge(2, 1), NO_SUCH);
        due.is("setAge(0, 100)", x -> x.setAge(0, 100), BAD_VALUE);
        due.is("meet(0, 2, 0)", x -> x.meet(0, 2, 0), NO_SUCH);
        due.is("meet(2, 0, 0)", x -> x.meet(2, 0, 0), NO_SUCH);
        due.is("meet(0, 1, 6)", x -> x.meet(0, 1, 6), NO_SUCH);
        due.is("meet(1, 1, 0)", x -> x.meet(1, 1, 0), NOT_POSSIBLE);
        due.is("chat(201)", x -> x.chat(201), BAD_VALUE);
        due.is("age(100)", x -> x.age(100), BAD_VALUE);
        due.is("count(7)", x -> x.count(7), BAD_VALUE);
        due.is("setting(4)", x -> x.setting(4), NO_SUCH);
        due.is("weight(2, 0, 0)", x -> x.weight(2, 0, 0), NO_SUCH);
        due.is("speaker(2, 0)", x -> x.speaker(2, 0), NO_SUCH);
        due.is("speaker(0, 5)", x -> x.speaker(0, 5), BAD_VALUE);
        due.is("wordOf(0, 6)", x -> x.wordOf(0, 6), NO_SUCH);
        due.is("hears(0, 14)", x -> x.hears(0, 14), NO_SUCH);
        due.is("gesture(14, 0)", x -> x.gesture(14, 0), NO_SUCH);
        due.is("agreement(0, 2, 0)", x -> x.agreement(0, 2, 0), NO_SUCH);
        due.is("agreement(0, 1, 2)", x -> x.agreement(0, 1, 2), BAD_VALUE);
        due.is("understanding(0, 2)", x -> x.understanding(0, 2), NO_SUCH);
        due.is("common(6)", x -> x.common(6), NO_SUCH);
        due.is("ifMet(0, 2, 0, 0)", x -> x.ifMet(0, 2, 0, 0), NO_SUCH);
        due.is("ifMet(0, 1, 0, 4)", x -> x.ifMet(0, 1, 0, 4), BAD_VALUE);
        due.is("ifMet(1, 1, 0, 0)", x -> x.ifMet(1, 1, 0, 0), NOT_POSSIBLE);
        due.is("ifChat(201)", x -> x.ifChat(201), BAD_VALUE);
        due.is("bestSayer(2)", x -> x.bestSayer(2), NO_SUCH);
        due.is("type(32)", x -> x.type(32), BAD_VALUE);
    }

    private void refusedCallsChangeNothing() {
        Due due = doc.terms("2 to 24, 27, 28", "A call that returns NO_SUCH, BAD_VALUE, NOT_POSSIBLE, LIMIT or "
            + "BAD_TEXT changes nothing");
        eachRefusal((call, refusal, code) -> due.refuses(Look::rich, call, refusal, code));
        due.refuses(Look::full, "come()", GesturePidgin::come, LIMIT);
        due.refuses(Look::full, "type(48)", x -> x.type(48), LIMIT);
        due.refuses(StateTerms::alone, "chat(1)", x -> x.chat(1), NOT_POSSIBLE);
        due.refuses(StateTerms::alone, "ifChat(1)", x -> x.ifChat(1), NOT_POSSIBLE);
        due.refuses(StateTerms::alone, "learn()", GesturePidgin::learn, GesturePidgin.BAD_TEXT);
        due.refuses(Look.after(GesturePidgin::new, x -> x.type('0')), "undo()", GesturePidgin::undo, NOT_POSSIBLE);
    }

    private void theFirstOfSeveral() {
        Due due = doc.terms("4, 6 to 9, 14, 17, 18, 21, 22, 24", "If several of them apply, the one that is named "
            + "first in the @return line is returned");
        GesturePidgin x = Look.rich();
        due.is("set: setting and value", x.set(4, 10), NO_SUCH);
        due.is("set: setting and value", x.set(-1, -1), NO_SUCH);
        due.is("teach: speaker and weight", x.teach(2, 0, 0, 100), NO_SUCH);
        due.is("teach: meaning and weight", x.teach(0, 6, 0, -1), NO_SUCH);
        due.is("teach: word and weight", x.teach(0, 0, 14, 100), NO_SUCH);
        due.is("setAge: speaker and age", x.setAge(2, 100), NO_SUCH);
        due.is("meet: no speaker with no other", x.meet(2, 2, 0), NO_SUCH);
        due.is("meet: meaning and the same", x.meet(0, 0, 6), NO_SUCH);
        due.is("speaker: speaker and what", x.speaker(2, 5), NO_SUCH);
        due.is("gesture: word and index", x.gesture(14, -1), NO_SUCH);
        due.is("agreement: speaker and way", x.agreement(2, 0, 2), NO_SUCH);
        due.is("agreement: other and way", x.agreement(0, 2, -1), NO_SUCH);
        due.is("ifMet: sayer and what", x.ifMet(2, 0, 0, 4), NO_SUCH);
        due.is("ifMet: hearer and what", x.ifMet(0, 2, 0, 4), NO_SUCH);
        due.is("ifMet: meaning, what and the same", x.ifMet(0, 0, 6, 4), NO_SUCH);
        due.is("ifMet: no speaker with no other", x.ifMet(2, 2, 0, 0), NO_SUCH);
        due.is("ifMet: what and the same", x.ifMet(0, 0, 0, -1), BAD_VALUE);
        GesturePidgin alone = Due.village(1);
        due.is("chat: meetings and too few speakers", alone.chat(0), BAD_VALUE);
        due.is("chat: meetings and too few speakers", alone.chat(201), BAD_VALUE);
        due.is("ifChat: meetings and too few speakers", alone.ifChat(0), BAD_VALUE);
        due.is("ifChat: meetings and too few speakers", alone.ifChat(201), BAD_VALUE);
        for (int length = 0; length < 80; length++) {
            alone.type('w');
        }
        due.is("type: code and a full text", alone.type(32), BAD_VALUE);
        due.is("type: code and a full text", alone.type(127), BAD_VALUE);
    }

    private void noneIsNoErrorCode() {
        Due due = doc.terms("15 to 17, 20, 23, 26", "NONE is not an error code");
        Supplier<GesturePidgin> made = () -> {
            GesturePidgin x = Due.village(1);
            Due.typeText(x, "0.0=w*1");
            return x;
        };
        due.refuses(made, "wordOf(0, 0)", x -> x.wordOf(0, 0), NONE);
        due.refuses(made, "hears(0, 0)", x -> x.hears(0, 0), NONE);
        due.refuses(made, "gesture(0, 1)", x -> x.gesture(0, 1), NONE);
        due.refuses(made, "common(0)", x -> x.common(0), NONE);
        due.refuses(made, "bestSayer(0)", x -> x.bestSayer(0), NONE);
        due.refuses(made, "syntaxError()", GesturePidgin::syntaxError, NONE);
        due.is("a text without an error can be learned", made.get().learn(), 1);
    }

    private void noSuch() {
        Due due = doc.terms("3, 4, 17, 20", "`NO_SUCH = -1`: There is no such speaker, meaning, word, gesture or "
            + "setting");
        GesturePidgin x = Due.village(1);
        due.is("speaker", x.go(1), -1);
        due.is("meaning", x.common(6), -1);
        due.is("word", x.gesture(14, 0), -1);
        due.is("setting", x.setting(4), -1);
        due.is("NO_SUCH", GesturePidgin.NO_SUCH, -1);
    }

    private void badValue() {
        Due due = doc.terms("6, 10", "`BAD_VALUE = -2`: Another argument is out of its range");
        GesturePidgin x = Due.village(1);
        due.is("weight", x.teach(0, 0, 0, 100), -2);
        due.is("years", x.age(0), -2);
        due.is("BAD_VALUE", GesturePidgin.BAD_VALUE, -2);
    }

    private void notPossible() {
        Due due = doc.terms("9, 28", "`NOT_POSSIBLE = -3`: The call is not possible in the present state");
        due.is("undo()", new GesturePidgin().undo(), -3);
        due.is("chat(1)", new GesturePidgin().chat(1), -3);
        due.is("NOT_POSSIBLE", GesturePidgin.NOT_POSSIBLE, -3);
    }

    private void limit() {
        Due due = doc.terms("2", "`LIMIT = -4`: A limit would be exceeded");
        due.is("come()", Due.village(8).come(), -4);
        due.is("LIMIT", GesturePidgin.LIMIT, -4);
    }

    private void badText() {
        Due due = doc.terms("27", "`BAD_TEXT = -5`: The text is not a habit list");
        due.is("learn()", new GesturePidgin().learn(), -5);
        due.is("BAD_TEXT", GesturePidgin.BAD_TEXT, -5);
    }

    private void none() {
        Due due = doc.terms("20", "`NONE = -6`: There is no such result");
        due.is("common(0)", new GesturePidgin().common(0), -6);
        due.is("NONE", GesturePidgin.NONE, -6);
    }

    private void forecastsChangeNothing() {
        Due due = doc.terms("21 to 23", "they change nothing");
        for (int i = 0; i < 4; i++) {
            int what = i;
            due.leavesAll(Look::rich, "ifMet(0, 1, 0, " + what + ")", x -> x.ifMet(0, 1, 0, what));
            due.leavesAll(Look::rich, "ifMet with two draws", x -> x.ifMet(3, 1, 1, what));
        }
        due.leavesAll(Look::rich, "ifChat(1)", x -> x.ifChat(1));
        due.leavesAll(Look::rich, "ifChat(200)", x -> x.ifChat(200));
        due.leavesAll(Look::rich, "bestSayer(0)", x -> x.bestSayer(0));
    }
}
