/** Promises 24 to 27: the text. */
public final class TextTest {
    private static final Due due = new Due();

    public static void main(String[] args) {
        promise24Type();
        promise25ClearText();
        promise26SyntaxError();
        promise26EachCharacterAtEachPlace();
        promise27Learn();
        promise27UpToWhoIsNotThere();
        promise27EachWord();
        promise27Refusals();
        due.end();
    }

    private static void promise24Type() {
        GesturePidgin x = new GesturePidgin();
        due.is("type(32)", x.type(32), GesturePidgin.BAD_VALUE);
        due.is("type(127)", x.type(127), GesturePidgin.BAD_VALUE);
        due.is("type(-1)", x.type(-1), GesturePidgin.BAD_VALUE);
        due.is("type(65536 + 48)", x.type(65536 + 48), GesturePidgin.BAD_VALUE);
        due.is("type(33)", x.type(33), 1);
        due.is("type(126)", x.type(126), 2);
        for (int length = 3; length <= 80; length++) {
            due.is("type(65)", x.type(65), length);
        }
        due.is("type(65) to 80", x.type(65), GesturePidgin.LIMIT);
        due.is("type(32) to 80", x.type(32), GesturePidgin.BAD_VALUE);
        due.is("the text stays", x.clearText(), 80);
        due.is("type is not undoable", x.undo(), GesturePidgin.NOT_POSSIBLE);
    }

    private static void promise25ClearText() {
        GesturePidgin x = Due.village(1);
        due.is("empty", x.clearText(), 0);
        Due.typeText(x, "0.0=w*1");
        due.is("clearText()", x.clearText(), 7);
        due.is("clearText() again", x.clearText(), 0);
        due.is("syntaxError() of the empty text", x.syntaxError(), 0);
        due.is("type(48)", x.type(48), 1);
        due.is("undo() leaves the text", x.undo(), 0);
        due.is("the text", x.clearText(), 1);
    }

    private static void syntax(String text, int want) {
        GesturePidgin x = new GesturePidgin();
        Due.typeText(x, text);
        due.is("syntaxError() of " + text, x.syntaxError(), want);
        due.is("the length stays", x.clearText(), text.length());
    }

    private static void promise26SyntaxError() {
        int none = GesturePidgin.NONE;
        syntax("", 0);
        syntax("0.0=w*0", none);
        syntax("7.5=nnn*99", none);
        syntax("3.2=wn*10;0.0=w*7", none);
        String whole = "7.5=wnw*48;0.0=n*0";
        for (int length = 0; length <= whole.length(); length++) {
            boolean complete = length == 9 || length == 10 || length == whole.length();
            syntax(whole.substring(0, length), complete ? none : length);
        }
        syntax("0.0=w*00", 7);
        syntax("0.0=w*01", 7);
        syntax("0.0=w*100", 8);
        syntax("0.0=wwww*1", 7);
        syntax("0.0=*1", 4);
        syntax("0.0=w1", 5);
        syntax("0.0=w*;", 6);
        syntax("0.0=w*1;;", 8);
        syntax(";", 0);
        syntax("8.0=w*1", 0);
        syntax("0.6=w*1", 2);
        syntax("0.0=W*1", 4);
        syntax("0.0=w*-1", 6);
        syntax("x0.6", 0);
        String eleven = "0.0=www*99;".repeat(7);
        syntax(eleven, 77);
        syntax(eleven + "0.0", 80);
        syntax("0.0=w*1;".repeat(9) + "0.0=ww*1", none);
    }

    /** Puts each character in each place of a habit list and looks where the first fault must be. */
    private static void promise26EachCharacterAtEachPlace() {
        String[] allowed = {"01234567", ".", "012345", "=", "wn", "wn*", "wn*", "*", "0123456789", "0123456789;",
            ";", "01234567"};
        String base = "0.0=www*10;0";
        for (int place = 0; place < base.length(); place++) {
            for (char c = 33; c < 127; c++) {
                GesturePidgin x = new GesturePidgin();
                Due.typeText(x, base.substring(0, place) + c);
                int got = x.syntaxError();
                boolean fits = allowed[place].indexOf(c) >= 0;
                int want = place + 1;
                if (!fits) {
                    want = place;
                } else if (place == 8 || place == 9 && c != ';') {
                    want = GesturePidgin.NONE;
                }
                due.is("syntaxError() of " + base.substring(0, place) + c, got, want);
            }
        }
    }

    private static void promise27Learn() {
        GesturePidgin x = Due.village(2);
        x.teach(0, 0, 0, 50);
        Due.typeText(x, "0.0=w*0;1.5=nnn*99;0.3=wn*7;0.3=wn*8");
        long before = x.digest();
        due.is("learn()", x.learn(), 4);
        due.is("a weight of 0", x.weight(0, 0, 0), 0);
        due.is("a weight of 99", x.weight(1, 5, 13), 99);
        due.is("the later one stands", x.weight(0, 3, 3), 8);
        due.is("no other weights", x.count(6), 107);
        due.is("the text is empty", x.clearText(), 0);
        due.is("one state is saved", x.undo(), 3);
        due.is("digest() undone", x.digest(), before);
        due.is("the text stays empty", x.clearText(), 0);
    }

    private static void promise27UpToWhoIsNotThere() {
        GesturePidgin x = Due.village(3);
        x.go(1);
        Due.typeText(x, "2.0=n*5;1.0=n*6;2.1=n*7");
        due.is("learn()", x.learn(), 1);
        due.is("before", x.weight(2, 0, 1), 5);
        due.is("after", x.weight(2, 1, 1), 0);
        due.is("the text is empty", x.clearText(), 0);
        Due.typeText(x, "7.0=n*5;2.0=n*6");
        due.is("learn() of no habit", x.learn(), 0);
        due.is("nothing is given", x.weight(2, 0, 1), 5);
        due.is("the text is empty", x.clearText(), 0);
        due.is("a state is saved all the same", x.undo(), 5);
        due.is("before", x.weight(2, 0, 1), 5);
        due.is("undo()", x.undo(), 4);
        due.is("undone", x.weight(2, 0, 1), 0);
    }

    private static void promise27EachWord() {
        GesturePidgin x = Due.village(8);
        String[] words = {"w", "n", "ww", "wn", "nw", "nn", "www", "wwn", "wnw", "wnn", "nww", "nwn", "nnw", "nnn"};
        for (int word = 0; word < words.length; word++) {
            int weight = 7 * word;
            Due.typeText(x, word % 8 + "." + word % 6 + "=" + words[word] + "*" + weight);
            due.is("learn() " + words[word], x.learn(), 1);
            due.is("weight of " + words[word], x.weight(word % 8, word % 6, word), weight);
        }
    }

    private static void promise27Refusals() {
        GesturePidgin x = Due.village(1);
        due.refused(x, "learn() of the empty text", x::learn, GesturePidgin.BAD_TEXT);
        Due.typeText(x, "0.0=w*1;");
        due.refused(x, "learn() of half a list", x::learn, GesturePidgin.BAD_TEXT);
        due.is("the text stays", x.type('x'), 9);
        due.refused(x, "learn() of a fault", x::learn, GesturePidgin.BAD_TEXT);
        due.is("the text stays", x.clearText(), 9);
        due.is("no refusal is saved", Due.undoAll(x), 1);
    }
}
