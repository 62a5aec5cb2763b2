import java.util.function.Supplier;

/** A test for each sentence of promises 24 to 27: the text. */
public final class TextSentencesTest {
    private static final int BAD_VALUE = GesturePidgin.BAD_VALUE;
    private static final int LIMIT = GesturePidgin.LIMIT;
    private static final int NONE = GesturePidgin.NONE;
    private static final int LEAST = Integer.MIN_VALUE;
    private static final int MOST = Integer.MAX_VALUE;
    /** A habit list of 80 characters. */
    private static final String EIGHTY = "0.0=w*1;".repeat(9) + "0.0=ww*1";

    private static final Sentences doc = new Sentences("Promise 24", "Promise 25", "Promise 26", "Promise 27");

    public static void main(String[] args) {
        promise24Appends();
        promise24Codes();
        promise24NewLength();
        promise24BadValue();
        promise24Limit();
        promise25MakesEmpty();
        promise25PreviousLength();
        promise26FirstError();
        promise26FirstCharacter();
        promise26ListsOfAnyLength();
        promise26LengthOfTheText();
        promise26None();
        promise27GivesWeights();
        promise27FromLeftToRight();
        promise27UpToTheFirstWhoIsNotThere();
        promise27MakesEmpty();
        promise27OneStateIsSaved();
        promise27Undoable();
        promise27NumberOfHabits();
        promise27BadText();
        doc.end();
    }

    private static GesturePidgin typed(int speakers, String text) {
        GesturePidgin x = Due.village(speakers);
        Due.typeText(x, text);
        return x;
    }

    private static int errorOf(String text) {
        return typed(0, text).syntaxError();
    }

    private static void promise24Appends() {
        Due due = doc.promise(24, "Appends a character to the text");
        GesturePidgin x = typed(1, "0.2=wn*3");
        due.is("a list", x.syntaxError(), NONE);
        x.type('9');
        due.is("still a list", x.syntaxError(), NONE);
        x.type('9');
        due.is("a digit too many, at the end", x.syntaxError(), 9);
        GesturePidgin y = typed(1, "0.2=wn*3");
        y.type('9');
        y.learn();
        due.is("the digit is the last one", y.weight(0, 2, 3), 39);
    }

    private static void promise24Codes() {
        Due due = doc.promise(24, "`code`: character code, 33 to 126");
        GesturePidgin x = new GesturePidgin();
        for (int code = 33; code < 127; code++) {
            due.is("type(" + code + ")", x.type(code), (code - 33) % 47 + 1);
            if (code == 79) {
                x.clearText();
            }
        }
    }

    private static void promise24NewLength() {
        Due due = doc.promise(24, "Returns the new length of the text");
        GesturePidgin x = new GesturePidgin();
        for (int length = 1; length <= 80; length++) {
            due.is("type()", x.type('='), length);
        }
        x.clearText();
        due.is("the first one again", x.type('='), 1);
    }

    private static void promise24BadValue() {
        Due due = doc.promise(24, "BAD_VALUE if code is out of range");
        int[] codes = {-1, 0, 32, 127, 128, 255, 256 + 48, 65536 + 48, -65536 + 48, LEAST, MOST};
        for (int code : codes) {
            due.refuses(Look::rich, "type(" + code + ")", x -> x.type(code), BAD_VALUE);
            due.refuses(Look::full, "type(" + code + ") to 80", x -> x.type(code), BAD_VALUE);
        }
    }

    private static void promise24Limit() {
        Due due = doc.promise(24, "LIMIT if the text has 80 characters");
        for (int code = 33; code < 127; code += 31) {
            int character = code;
            due.refuses(Look::full, "type(" + code + ") to 80", x -> x.type(character), LIMIT);
        }
        GesturePidgin x = typed(0, EIGHTY.substring(0, 79));
        due.is("type() to 79", x.type('5'), 80);
        due.is("type() to 80", x.type('5'), LIMIT);
        due.is("the text is that of before", x.syntaxError(), NONE);
        x.clearText();
        due.is("type() to the empty text", x.type('5'), 1);
    }

    private static void promise25MakesEmpty() {
        Due due = doc.promise(25, "Makes the text empty");
        String[] texts = {"", "0", "0.0=w*1", "x".repeat(79), "x".repeat(80)};
        for (String text : texts) {
            GesturePidgin x = typed(1, text);
            x.clearText();
            due.is("the first fault is that of the empty text", x.syntaxError(), 0);
            due.is("there is nothing to learn", x.learn(), GesturePidgin.BAD_TEXT);
            due.is("the length is 0", x.clearText(), 0);
            Due.typeText(x, "0.0=w*1");
            due.is("nothing of the text before is left", x.learn(), 1);
        }
    }

    private static void promise25PreviousLength() {
        Due due = doc.promise(25, "Returns the previous length of the text");
        for (int length = 0; length <= 80; length++) {
            due.is("clearText()", typed(0, "w".repeat(length)).clearText(), length);
        }
        due.is("of a text to which a character too many was typed", typed(0, "w".repeat(81)).clearText(), 80);
    }

    private static void promise26FirstError() {
        Due due = doc.promise(26, "Finds the first syntax error of the text");
        due.is("two errors", errorOf("0.9=w*x"), 2);
        due.is("errors only", errorOf("xxxxxxx"), 0);
        due.is("an error at the end of 80", errorOf(EIGHTY.substring(0, 79) + "x"), 79);
        due.is("an error behind which all would be right", errorOf("8.0=w*1;0.0=w*1"), 0);
        due.leavesAll(Look::rich, "syntaxError()", GesturePidgin::syntaxError);
        due.leavesAll(Look::full, "syntaxError()", GesturePidgin::syntaxError);
    }

    /** Puts a character that fits nowhere in each place of a long list. */
    private static void promise26FirstCharacter() {
        Due due = doc.promise(26, "Returns the index of the first character for which no habit list");
        String list = "7.5=nnn*99;0.0=w*0;3.2=wn*10;" + EIGHTY.substring(0, 50);
        for (int place = 0; place < list.length(); place++) {
            due.is("! at " + place, errorOf(list.substring(0, place) + "!" + list.substring(place + 1)), place);
        }
        String[] texts = {"8", "/", "7-", "7/", "06", "0.6", "0./", "0.5<", "0.5>", "0.5=*", "0.5=W", "0.5=m",
            "0.5=o", "0.5=v", "0.5=x", "0.5=wwww", "0.5=wnwn", "0.5=w;", "0.5=w1", "0.5=w)", "0.5=w+", "0.5=w**",
            "0.5=w*;", "0.5=w*/", "0.5=w*:", "0.5=w*00", "0.5=w*09", "0.5=w*0/", "0.5=w*9/", "0.5=w*9:", "0.5=w*100",
            "0.5=w*999", "0.5=w*99:", "0.5=w*99<", "0.5=w*9;;", "0.5=w*9;8", "0.5=w*9;/", "0.5=w*99;."};
        for (String text : texts) {
            due.is(text, errorOf(text), text.length() - 1);
            due.is(text + " and more", errorOf(text + "0.0=w*1"), text.length() - 1);
        }
    }

    /** Habits, each with its ";", that have so many characters together. */
    private static String habits(int length) {
        String[] habits = {"0.0=w*1;", "0.0=ww*1;", "0.0=www*1;", "0.0=www*10;"};
        StringBuilder text = new StringBuilder();
        while (text.length() < length) {
            text.append(habits[Math.min(3, (length - text.length()) % 8)]);
        }
        return text.toString();
    }

    private static void promise26ListsOfAnyLength() {
        Due due = doc.promise(26, "no habit list, of any length, begins with the characters of the text up to and "
            + "including this one");
        String end = "7.5=n*";
        for (int length = 0; length <= end.length(); length++) {
            String text = habits(80 - length) + end.substring(0, length);
            due.is("the length of " + text, text.length(), 80);
            due.is("a list longer than 80 begins with " + text, errorOf(text), 80);
        }
        due.is("a list of 80 begins with 79", errorOf(EIGHTY.substring(0, 79)), 79);
    }

    private static void promise26LengthOfTheText() {
        Due due = doc.promise(26, "the length of the text if there is no such character but the text is not a habit "
            + "list (this holds for the empty text)");
        due.is("the empty text", errorOf(""), 0);
        String list = "0.0=wnw*10;7.5=nn*0";
        for (int length = 1; length < list.length(); length++) {
            boolean whole = length == 9 || length == 10;
            due.is(list.substring(0, length), errorOf(list.substring(0, length)), whole ? NONE : length);
        }
        due.is("80 characters that end within a habit", errorOf("0.0=w*1;".repeat(9) + "0.0=www*"), 80);
        due.is("80 characters that end behind a habit", errorOf("0.0=w*1;".repeat(10)), 80);
    }

    private static void promise26None() {
        Due due = doc.promise(26, "NONE if the text is a habit list");
        String[] lists = {"0.0=w*0", "7.5=nnn*99", "0.0=n*9", "0.0=w*10", "0.0=w*0;0.0=w*0", EIGHTY};
        for (String list : lists) {
            due.is(list, errorOf(list), NONE);
        }
    }

    private static void promise27GivesWeights() {
        Due due = doc.promise(27, "Gives speakers the weights of the text");
        GesturePidgin x = typed(8, "0.0=w*0;7.5=nnn*99;0.5=ww*10;7.0=n*9");
        x.teach(0, 0, 0, 50);
        x.learn();
        due.is("the weight 0", x.weight(0, 0, 0), 0);
        due.is("the weight 99", x.weight(7, 5, 13), 99);
        due.is("the weight 10", x.weight(0, 5, 2), 10);
        due.is("the weight 9", x.weight(7, 0, 1), 9);
        due.is("no other weights", x.count(6), 99 + 10 + 9);
        String[] words = {"w", "n", "ww", "wn", "nw", "nn", "www", "wwn", "wnw", "wnn", "nww", "nwn", "nnw", "nnn"};
        for (int word = 0; word < 14; word++) {
            GesturePidgin y = typed(1, "0.3=" + words[word] + "*98");
            y.learn();
            due.is("the weight of " + words[word], y.weight(0, 3, word), 98);
        }
    }

    private static void promise27FromLeftToRight() {
        Due due = doc.promise(27, "from left to right");
        GesturePidgin x = typed(1, "0.0=w*5;0.0=w*99;0.0=w*7");
        x.learn();
        due.is("the last one stands", x.weight(0, 0, 0), 7);
        GesturePidgin y = typed(1, "0.0=w*5;1.0=w*6;0.0=w*7");
        y.learn();
        due.is("the left one is given before the one who is not there", y.weight(0, 0, 0), 5);
    }

    private static void promise27UpToTheFirstWhoIsNotThere() {
        Due due = doc.promise(27, "up to the first habit of a speaker who is not there");
        GesturePidgin x = typed(2, "0.0=w*5;1.1=w*6;2.0=w*7;0.2=w*8;7.0=w*1");
        due.is("learn()", x.learn(), 2);
        due.is("the first one", x.weight(0, 0, 0), 5);
        due.is("the second one", x.weight(1, 1, 0), 6);
        due.is("none behind", x.weight(0, 2, 0), 0);
        due.is("no other weights", x.count(6), 11);
        GesturePidgin y = typed(1, "1.0=w*5;0.0=w*6");
        due.is("learn() of none", y.learn(), 0);
        due.is("no weights", y.count(6), 0);
        due.is("nobody came", y.count(0), 1);
        GesturePidgin z = typed(8, "7.0=w*5;6.0=w*6");
        z.go(6);
        due.is("learn() up to one who is gone", z.learn(), 1);
        due.is("the last speaker", z.weight(7, 0, 0), 5);
    }

    private static void promise27MakesEmpty() {
        Due due = doc.promise(27, "and makes the text empty");
        String[] lists = {"0.0=w*5", "1.0=w*5", "0.0=w*5;1.0=w*5;0.0=w*6", EIGHTY};
        for (String list : lists) {
            GesturePidgin x = typed(1, list);
            x.learn();
            due.is("clearText() after " + list, x.clearText(), 0);
            GesturePidgin y = typed(1, list);
            y.learn();
            due.is("type() after " + list, y.type('0'), 1);
        }
    }

    private static void promise27OneStateIsSaved() {
        Due due = doc.promise(27, "One state is saved for the whole call, also if no weight is given");
        GesturePidgin x = typed(2, EIGHTY);
        long before = x.digest();
        due.is("learn() of ten habits", x.learn(), 10);
        due.is("undo()", x.undo(), 2);
        due.is("all ten are undone", x.digest(), before);
        GesturePidgin y = typed(2, "5.0=w*5");
        due.is("learn() of none", y.learn(), 0);
        due.is("undo()", y.undo(), 2);
        due.is("nothing is different", y.digest(), before);
        due.is("undo() of the coming", y.undo(), 1);
        GesturePidgin z = typed(0, "0.0=w*5");
        due.is("learn() in an empty village", z.learn(), 0);
        due.is("undo()", z.undo(), 0);
    }

    private static void promise27Undoable() {
        Due due = doc.promise(27, "Undoable");
        GesturePidgin x = Look.rich();
        long before = x.digest();
        due.is("learn()", x.learn(), 2);
        due.holds("something is different", x.digest() != before);
        due.is("undo()", x.undo(), 3);
        due.is("the state is that of before", x.digest(), before);
        due.is("the text isn't brought back", x.clearText(), 0);
    }

    private static void promise27NumberOfHabits() {
        Due due = doc.promise(27, "Returns the number of habits that are given");
        due.is("ten", typed(1, EIGHTY).learn(), 10);
        due.is("one", typed(1, "0.0=w*5").learn(), 1);
        due.is("none", typed(1, "1.0=w*5").learn(), 0);
        due.is("weights that are there already count, too", typed(1, "0.0=w*0;0.0=w*0").learn(), 2);
        due.is("all but the last", typed(1, "0.0=w*5;0.1=w*5;1.0=w*5").learn(), 2);
    }

    private static void promise27BadText() {
        Due due = doc.promise(27, "BAD_TEXT if the text is not a habit list (then the text stays)");
        String[] texts = {"", "0", "0.0=w*", "0.0=w*1;", "0.0=w*1;0.0=w*01", "8.0=w*1", "1.0=w*1;x",
            EIGHTY.substring(0, 79) + "x", "0.0=w*1;".repeat(10)};
        for (String text : texts) {
            Supplier<GesturePidgin> made = () -> typed(1, text);
            due.refuses(made, "learn() of " + text, GesturePidgin::learn, GesturePidgin.BAD_TEXT);
            GesturePidgin x = made.get();
            x.learn();
            due.is("the length stays", x.clearText(), text.length());
        }
        GesturePidgin y = typed(1, "0.0=w*");
        y.learn();
        y.type('7');
        due.is("the text can be ended then", y.learn(), 1);
        due.is("the weight", y.weight(0, 0, 0), 7);
    }
}
