/** Promises 1 to 7: a new village, speakers and settings. */
public final class SpeakersTest {
    private static final Due due = new Due();

    public static void main(String[] args) {
        promise01NewObject();
        promise02Come();
        promise02NewSpeakerHasNothingOfTheOneBefore();
        promise03Go();
        promise04Set();
        promise05SetSeed();
        promise06Teach();
        promise07SetAge();
        due.end();
    }

    private static void promise01NewObject() {
        GesturePidgin x = new GesturePidgin();
        int[] counts = {0, 1, 0, 0, 0, 0, 0};
        for (int what = 0; what < counts.length; what++) {
            due.is("new: count(" + what + ")", x.count(what), counts[what]);
        }
        int[] settings = {4, 1, 60, 50};
        for (int setting = 0; setting < settings.length; setting++) {
            due.is("new: setting(" + setting + ")", x.setting(setting), settings[setting]);
        }
        for (int speaker = 0; speaker < 8; speaker++) {
            due.is("new: speaker(" + speaker + ", 0)", x.speaker(speaker, 0), GesturePidgin.NO_SUCH);
        }
        due.is("new: clearText()", x.clearText(), 0);
        due.is("new: undo()", x.undo(), GesturePidgin.NOT_POSSIBLE);
        due.is("new: the other object", new GesturePidgin().digest(), x.digest());
    }

    private static void promise02Come() {
        GesturePidgin x = new GesturePidgin();
        for (int number = 0; number < 8; number++) {
            due.is("come()", x.come(), number);
            due.is("age of the new speaker", x.speaker(number, 0), 0);
            due.is("count(0)", x.count(0), number + 1);
        }
        due.refused(x, "come() to 8", x::come, GesturePidgin.LIMIT);
        x.go(5);
        x.go(2);
        due.is("come() to the lowest free", x.come(), 2);
        due.is("come() to the next free", x.come(), 5);
        due.is("undo() of come", x.undo(), 5);
        due.is("undone speaker", x.speaker(5, 0), GesturePidgin.NO_SUCH);
        due.is("left speaker", x.speaker(2, 0), 0);
    }

    private static void promise02NewSpeakerHasNothingOfTheOneBefore() {
        GesturePidgin x = Due.village(2);
        x.teach(0, 3, 7, 50);
        x.setAge(0, 40);
        x.meet(0, 1, 3);
        x.go(0);
        due.is("come() again", x.come(), 0);
        due.is("weight of the new one", x.weight(0, 3, 7), 0);
        due.is("age of the new one", x.speaker(0, 0), 0);
        due.is("meetings of the new one", x.speaker(0, 4), 0);
        due.is("meetings of the other one", x.speaker(1, 4), 1);
    }

    private static void promise03Go() {
        GesturePidgin x = Due.village(3);
        x.teach(1, 0, 0, 9);
        x.teach(2, 0, 0, 5);
        due.refused(x, "go(3)", () -> x.go(3), GesturePidgin.NO_SUCH);
        due.refused(x, "go(-1)", () -> x.go(-1), GesturePidgin.NO_SUCH);
        due.refused(x, "go(8)", () -> x.go(8), GesturePidgin.NO_SUCH);
        due.is("go(1)", x.go(1), 2);
        due.refused(x, "go(1) again", () -> x.go(1), GesturePidgin.NO_SUCH);
        due.is("weights of those left", x.count(6), 5);
        due.is("the others stay", x.weight(2, 0, 0), 5);
        due.is("go(0)", x.go(0), 1);
        due.is("go(2)", x.go(2), 0);
        due.is("undo() of go", x.undo(), 5);
        due.is("weight is back", x.weight(2, 0, 0), 5);
    }

    private static void promise04Set() {
        int[] least = {1, 0, 5, 0};
        int[] most = {9, 9, 99, 100};
        int[] initial = {4, 1, 60, 50};
        for (int i = 0; i < 4; i++) {
            GesturePidgin x = new GesturePidgin();
            int setting = i;
            due.refused(x, "set below", () -> x.set(setting, least[setting] - 1), GesturePidgin.BAD_VALUE);
            due.refused(x, "set above", () -> x.set(setting, most[setting] + 1), GesturePidgin.BAD_VALUE);
            due.is("no state saved", x.undo(), GesturePidgin.NOT_POSSIBLE);
            due.is("set(" + i + ", least)", x.set(i, least[i]), initial[i]);
            due.is("setting(" + i + ")", x.setting(i), least[i]);
            due.is("set(" + i + ", most)", x.set(i, most[i]), least[i]);
            due.is("setting(" + i + ")", x.setting(i), most[i]);
            due.is("undo()", x.undo(), 1);
            due.is("setting(" + i + ") undone", x.setting(i), least[i]);
            for (int other = 0; other < 4; other++) {
                due.is("other settings", other == i ? initial[other] : x.setting(other), initial[other]);
            }
        }
        GesturePidgin x = new GesturePidgin();
        due.refused(x, "set(4, 5)", () -> x.set(4, 5), GesturePidgin.NO_SUCH);
        due.refused(x, "set(-1, -1)", () -> x.set(-1, -1), GesturePidgin.NO_SUCH);
    }

    private static void promise05SetSeed() {
        GesturePidgin x = new GesturePidgin();
        due.refused(x, "setSeed(-1)", () -> x.setSeed(-1), GesturePidgin.BAD_VALUE);
        due.refused(x, "setSeed(65536)", () -> x.setSeed(65536), GesturePidgin.BAD_VALUE);
        due.is("no state saved", x.undo(), GesturePidgin.NOT_POSSIBLE);
        due.is("setSeed(0)", x.setSeed(0), 1);
        due.is("setSeed(65535)", x.setSeed(65535), 0);
        due.is("count(1)", x.count(1), 65535);
        due.is("undo()", x.undo(), 1);
        due.is("count(1) undone", x.count(1), 0);
    }

    private static void promise06Teach() {
        GesturePidgin x = Due.village(2);
        x.go(0);
        due.refused(x, "teach nobody", () -> x.teach(0, 0, 0, 100), GesturePidgin.NO_SUCH);
        due.refused(x, "teach speaker -1", () -> x.teach(-1, 0, 0, 1), GesturePidgin.NO_SUCH);
        due.refused(x, "teach speaker 8", () -> x.teach(8, 0, 0, 1), GesturePidgin.NO_SUCH);
        due.refused(x, "teach meaning 6", () -> x.teach(1, 6, 0, -1), GesturePidgin.NO_SUCH);
        due.refused(x, "teach meaning -1", () -> x.teach(1, -1, 0, 1), GesturePidgin.NO_SUCH);
        due.refused(x, "teach word 14", () -> x.teach(1, 0, 14, 1), GesturePidgin.NO_SUCH);
        due.refused(x, "teach word -1", () -> x.teach(1, 1, -1, 1), GesturePidgin.NO_SUCH);
        due.refused(x, "teach weight 100", () -> x.teach(1, 0, 0, 100), GesturePidgin.BAD_VALUE);
        due.refused(x, "teach weight -1", () -> x.teach(1, 0, 0, -1), GesturePidgin.BAD_VALUE);
        due.is("only what was not refused is saved", Due.undoAll(x), 3);

        GesturePidgin y = Due.village(1);
        for (int meaning = 0; meaning < 6; meaning++) {
            for (int word = 0; word < 14; word++) {
                due.is("teach", y.teach(0, meaning, word, 14 * meaning + word), 0);
            }
        }
        for (int meaning = 0; meaning < 6; meaning++) {
            for (int word = 0; word < 14; word++) {
                due.is("weight", y.weight(0, meaning, word), 14 * meaning + word);
            }
        }
        due.is("teach the greatest weight", y.teach(0, 5, 13, 99), 83);
        due.is("teach the least weight", y.teach(0, 5, 13, 0), 99);
        due.is("undo()", y.undo(), 5);
        due.is("weight undone", y.weight(0, 5, 13), 99);
    }

    private static void promise07SetAge() {
        GesturePidgin x = Due.village(2);
        due.refused(x, "setAge(2, 100)", () -> x.setAge(2, 100), GesturePidgin.NO_SUCH);
        due.refused(x, "setAge(-1, 1)", () -> x.setAge(-1, 1), GesturePidgin.NO_SUCH);
        due.refused(x, "setAge(0, 100)", () -> x.setAge(0, 100), GesturePidgin.BAD_VALUE);
        due.refused(x, "setAge(0, -1)", () -> x.setAge(0, -1), GesturePidgin.BAD_VALUE);
        due.is("setAge(0, 99)", x.setAge(0, 99), 0);
        due.is("setAge(0, 0)", x.setAge(0, 0), 99);
        due.is("the other age", x.speaker(1, 0), 0);
        due.is("undo()", x.undo(), 3);
        due.is("age undone", x.speaker(0, 0), 99);
        due.is("an age above the life bears no child yet", x.count(4), 0);
    }
}
