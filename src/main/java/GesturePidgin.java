/** A village whose speakers share a pidgin of winks and nods. ../shared/DOC.md says what each call does. */
public final class GesturePidgin {
    public static final int NO_SUCH = -1;
    public static final int BAD_VALUE = -2;
    public static final int NOT_POSSIBLE = -3;
    public static final int LIMIT = -4;
    public static final int BAD_TEXT = -5;
    public static final int NONE = -6;

    private static final int MOST_SPEAKERS = 8;
    private static final int MEANINGS = 6;
    private static final int WORDS = 14;
    private static final int MOST_WEIGHT = 99;
    private static final int MOST_AGE = 99;
    private static final int MOST_SEED = 65535;
    private static final int MOST_MEETINGS = 200;
    private static final int MOST_YEARS = 99;
    private static final int MOST_SAVED = 6;
    private static final int MOST_CHARACTERS = 80;
    private static final int COUNTS = 7;
    private static final int SPEAKER_NUMBERS = 5;
    private static final int FORECASTS = 4;
    private static final long FIRST_HASH = 473L;

    private static final int GAIN = 0;
    private static final int LOSS = 1;
    private static final int LIFE = 2;
    private static final int SHARE = 3;
    private static final int SETTINGS = 4;

    /** The number of no speaker, where none is to be left out. */
    private static final int NOBODY = -1;

    private final Village village;
    /** Forecasts are played here, so that the village itself stays as it is. */
    private final Village trial;
    private final SavedStates saved;
    private final HabitText text;

    public GesturePidgin() {
        village = new Village();
        trial = new Village();
        saved = new SavedStates();
        text = new HabitText();
    }

    // ---- speakers and settings

    public int come() {
        int number = village.lowestFree();
        if (number == NONE) {
            return LIMIT;
        }
        saved.keep(village);
        village.welcome(number);
        return number;
    }

    public int go(int speaker) {
        Speaker leaver = village.find(speaker);
        if (leaver == null) {
            return NO_SUCH;
        }
        saved.keep(village);
        leaver.leave();
        return village.countSpeakers();
    }

    public int set(int setting, int value) {
        if (!isBelow(setting, SETTINGS)) {
            return NO_SUCH;
        }
        if (value < leastOf(setting) || value > mostOf(setting)) {
            return BAD_VALUE;
        }
        int previous = village.settingAt(setting);
        saved.keep(village);
        village.putSetting(setting, value);
        return previous;
    }

    public int setSeed(int seed) {
        if (seed < 0 || seed > MOST_SEED) {
            return BAD_VALUE;
        }
        int previous = village.seed;
        saved.keep(village);
        village.seed = seed;
        return previous;
    }

    public int teach(int speaker, int meaning, int word, int weight) {
        Speaker pupil = village.find(speaker);
        if (pupil == null || !isMeaning(meaning) || !isWord(word)) {
            return NO_SUCH;
        }
        if (weight < 0 || weight > MOST_WEIGHT) {
            return BAD_VALUE;
        }
        int previous = pupil.weightOf(meaning, word);
        saved.keep(village);
        pupil.putWeight(meaning, word, weight);
        return previous;
    }

    public int setAge(int speaker, int age) {
        Speaker known = village.find(speaker);
        if (known == null) {
            return NO_SUCH;
        }
        if (age < 0 || age > MOST_AGE) {
            return BAD_VALUE;
        }
        int previous = known.years;
        saved.keep(village);
        known.years = age;
        return previous;
    }

    // ---- meetings and years

    public int meet(int sayer, int hearer, int meaning) {
        Speaker first = village.find(sayer);
        Speaker second = village.find(hearer);
        if (first == null || second == null || !isMeaning(meaning)) {
            return NO_SUCH;
        }
        if (sayer == hearer) {
            return NOT_POSSIBLE;
        }
        saved.keep(village);
        return village.holdMeeting(first, second, meaning);
    }

    public int chat(int meetings) {
        int refusal = refusalOfChat(meetings);
        if (refusal != 0) {
            return refusal;
        }
        saved.keep(village);
        return village.holdChats(meetings);
    }

    public int age(int years) {
        if (years < 1 || years > MOST_YEARS) {
            return BAD_VALUE;
        }
        saved.keep(village);
        return village.passYears(years);
    }

    // ---- asking

    public int count(int what) {
        return isBelow(what, COUNTS) ? village.numberOf(what) : BAD_VALUE;
    }

    public int setting(int setting) {
        return isBelow(setting, SETTINGS) ? village.settingAt(setting) : NO_SUCH;
    }

    public int weight(int speaker, int meaning, int word) {
        Speaker known = village.find(speaker);
        if (known == null || !isMeaning(meaning) || !isWord(word)) {
            return NO_SUCH;
        }
        return known.weightOf(meaning, word);
    }

    public int speaker(int speaker, int what) {
        Speaker known = village.find(speaker);
        if (known == null) {
            return NO_SUCH;
        }
        return isBelow(what, SPEAKER_NUMBERS) ? village.numberOfSpeaker(known, what) : BAD_VALUE;
    }

    public int wordOf(int speaker, int meaning) {
        Speaker known = village.find(speaker);
        if (known == null || !isMeaning(meaning)) {
            return NO_SUCH;
        }
        return known.wordFor(meaning);
    }

    public int hears(int speaker, int word) {
        Speaker known = village.find(speaker);
        if (known == null || !isWord(word)) {
            return NO_SUCH;
        }
        return known.meaningOf(word);
    }

    public int gesture(int word, int index) {
        if (!isWord(word)) {
            return NO_SUCH;
        }
        int length = lengthOfWord(word);
        if (!isBelow(index, length)) {
            return NONE;
        }
        int bit = (codeOfWord(word) >> (length - 1 - index)) & 1;
        return bit == 0 ? 'w' : 'n';
    }

    public int agreement(int speaker, int other, int way) {
        Speaker first = village.find(speaker);
        Speaker second = village.find(other);
        if (first == null || second == null) {
            return NO_SUCH;
        }
        if (way == 0) {
            return agreementByMeanings(first, second);
        }
        return way == 1 ? agreementByWords(first, second) : BAD_VALUE;
    }

    public int understanding(int speaker, int other) {
        Speaker sayer = village.find(speaker);
        Speaker hearer = village.find(other);
        if (sayer == null || hearer == null) {
            return NO_SUCH;
        }
        return understandingOf(sayer, hearer);
    }

    public int common(int meaning) {
        return isMeaning(meaning) ? village.commonWord(meaning) : NO_SUCH;
    }

    // ---- forecasts; they change nothing

    public int ifMet(int sayer, int hearer, int meaning, int what) {
        if (village.find(sayer) == null || village.find(hearer) == null || !isMeaning(meaning)) {
            return NO_SUCH;
        }
        if (!isBelow(what, FORECASTS)) {
            return BAD_VALUE;
        }
        if (sayer == hearer) {
            return NOT_POSSIBLE;
        }
        trial.copyFrom(village);
        Speaker first = trial.find(sayer);
        Speaker second = trial.find(hearer);
        if (first == null || second == null) {
            return NO_SUCH;
        }
        int outcome = trial.holdMeeting(first, second, meaning);
        switch (what) {
            case 0:
                return outcome / 10;
            case 1:
                return outcome % 10;
            case 2:
                return outcome % 10 == meaning ? 1 : 0;
            default:
                return agreementByMeanings(first, second);
        }
    }

    public int ifChat(int meetings) {
        int refusal = refusalOfChat(meetings);
        if (refusal != 0) {
            return refusal;
        }
        trial.copyFrom(village);
        return trial.holdChats(meetings);
    }

    public int bestSayer(int speaker) {
        Speaker hearer = village.find(speaker);
        if (hearer == null) {
            return NO_SUCH;
        }
        int best = NONE;
        int greatest = -1;
        for (int number = 0; number < MOST_SPEAKERS; number++) {
            Speaker sayer = village.find(number);
            if (sayer == null || number == speaker) {
                continue;
            }
            int understood = understandingOf(sayer, hearer);
            if (understood > greatest) {
                greatest = understood;
                best = number;
            }
        }
        return best;
    }

    // ---- text

    public int type(int code) {
        if (code < 33 || code > 126) {
            return BAD_VALUE;
        }
        return text.append((char) code) ? text.length : LIMIT;
    }

    public int clearText() {
        int previous = text.length;
        text.length = 0;
        return previous;
    }

    public int syntaxError() {
        return text.firstError();
    }

    public int learn() {
        if (text.firstError() != NONE) {
            return BAD_TEXT;
        }
        saved.keep(village);
        int given = text.giveHabits(village);
        text.length = 0;
        return given;
    }

    // ---- undo

    public int undo() {
        return saved.restore(village) ? saved.size : NOT_POSSIBLE;
    }

    public long digest() {
        long hash = FIRST_HASH;
        for (int what = 0; what < COUNTS; what++) {
            hash = mixed(hash, village.numberOf(what));
        }
        for (int setting = 0; setting < SETTINGS; setting++) {
            hash = mixed(hash, village.settingAt(setting));
        }
        for (int number = 0; number < MOST_SPEAKERS; number++) {
            hash = withSpeaker(hash, number);
        }
        for (int meaning = 0; meaning < MEANINGS; meaning++) {
            hash = mixed(hash, village.commonWord(meaning));
        }
        for (int lower = 0; lower < MOST_SPEAKERS; lower++) {
            hash = withPairsOf(hash, lower);
        }
        return hash;
    }

    private static long mixed(long hash, int value) {
        return 31 * hash + value;
    }

    private long withSpeaker(long hash, int number) {
        Speaker known = village.find(number);
        if (known == null) {
            return hash;
        }
        long longer = mixed(hash, number);
        for (int what = 0; what < SPEAKER_NUMBERS; what++) {
            longer = mixed(longer, village.numberOfSpeaker(known, what));
        }
        for (int meaning = 0; meaning < MEANINGS; meaning++) {
            longer = mixed(longer, known.wordFor(meaning));
        }
        return longer;
    }

    private long withPairsOf(long hash, int lower) {
        Speaker first = village.find(lower);
        if (first == null) {
            return hash;
        }
        long longer = hash;
        for (int higher = lower + 1; higher < MOST_SPEAKERS; higher++) {
            Speaker second = village.find(higher);
            if (second != null) {
                longer = mixed(longer, agreementByMeanings(first, second));
                longer = mixed(longer, understandingOf(first, second));
            }
        }
        return longer;
    }

    /** Answers the error code for a chat of so many meetings, or 0 if it can be held. */
    private int refusalOfChat(int meetings) {
        if (meetings < 1 || meetings > MOST_MEETINGS) {
            return BAD_VALUE;
        }
        return village.countSpeakers() < 2 ? NOT_POSSIBLE : 0;
    }

    private static int agreementByMeanings(Speaker first, Speaker second) {
        int agreed = 0;
        for (int meaning = 0; meaning < MEANINGS; meaning++) {
            int word = first.wordFor(meaning);
            if (word != NONE && word == second.wordFor(meaning)) {
                agreed++;
            }
        }
        return agreed;
    }

    private static int agreementByWords(Speaker first, Speaker second) {
        int agreed = 0;
        for (int word = 0; word < WORDS; word++) {
            for (int meaning = 0; meaning < MEANINGS; meaning++) {
                if (first.wordFor(meaning) == word && second.wordFor(meaning) == word) {
                    agreed++;
                }
            }
        }
        return agreed;
    }

    private static int understandingOf(Speaker sayer, Speaker hearer) {
        int understood = 0;
        for (int meaning = 0; meaning < MEANINGS; meaning++) {
            int word = sayer.wordFor(meaning);
            if (word != NONE && hearer.meaningOf(word) == meaning) {
                understood++;
            }
        }
        return understood;
    }

    private static boolean isBelow(int number, int bound) {
        return number >= 0 && number < bound;
    }

    private static boolean isMeaning(int meaning) {
        return meaning >= 0 && meaning < MEANINGS;
    }

    private static boolean isWord(int word) {
        return word >= 0 && word < WORDS;
    }

    private static int leastOf(int setting) {
        switch (setting) {
            case GAIN:
                return 1;
            case LIFE:
                return 5;
            default:
                return 0;
        }
    }

    private static int mostOf(int setting) {
        switch (setting) {
            case LIFE:
                return 99;
            case SHARE:
                return 100;
            default:
                return 9;
        }
    }

    /**
     * A word's code is a leading 1 and then a bit for each gesture, 0 for a wink and 1 for a nod: the order of the
     * words is that of their codes, without a gap, and the code of word 0 is 2.
     */
    private static int codeOfWord(int word) {
        return word + 2;
    }

    private static int wordOfCode(int code) {
        return code - 2;
    }

    private static int lengthOfWord(int word) {
        int code = codeOfWord(word);
        if (code < 4) {
            return 1;
        }
        return code < 8 ? 2 : 3;
    }

    /** One speaker's place in the village, which may be empty. */
    private static final class Speaker {
        private final int[] weights;
        private boolean present;
        private int years;
        private int meetings;

        Speaker() {
            weights = new int[MEANINGS * WORDS];
        }

        void copyFrom(Speaker other) {
            System.arraycopy(other.weights, 0, weights, 0, MEANINGS * WORDS);
            present = other.present;
            years = other.years;
            meetings = other.meetings;
        }

        void arrive() {
            present = true;
            beginLife(null, 0);
        }

        void leave() {
            present = false;
        }

        /** Begins a life with a share of a teacher's habits, or with none where there is no teacher. */
        void beginLife(Speaker teacher, int share) {
            years = 0;
            meetings = 0;
            for (int meaning = 0; meaning < MEANINGS; meaning++) {
                for (int word = 0; word < WORDS; word++) {
                    int weight = teacher == null ? 0 : teacher.weightOf(meaning, word) * share / 100;
                    putWeight(meaning, word, weight);
                }
            }
        }

        int weightOf(int meaning, int word) {
            return isMeaning(meaning) && isWord(word) ? weights[meaning * WORDS + word] : 0;
        }

        void putWeight(int meaning, int word, int weight) {
            if (isMeaning(meaning) && isWord(word)) {
                weights[meaning * WORDS + word] = Math.max(0, Math.min(MOST_WEIGHT, weight));
            }
        }

        void changeWeight(int meaning, int word, int change) {
            putWeight(meaning, word, weightOf(meaning, word) + change);
        }

        int wordFor(int meaning) {
            int best = NONE;
            int greatest = 0;
            for (int word = 0; word < WORDS; word++) {
                int weight = weightOf(meaning, word);
                if (weight > greatest) {
                    greatest = weight;
                    best = word;
                }
            }
            return best;
        }

        int meaningOf(int word) {
            int best = NONE;
            int greatest = 0;
            for (int meaning = 0; meaning < MEANINGS; meaning++) {
                int weight = weightOf(meaning, word);
                if (weight > greatest) {
                    greatest = weight;
                    best = meaning;
                }
            }
            return best;
        }

        int learnsWith(int gain) {
            return Math.max(1, gain - years / 20);
        }

        /** Strengthens a word for a meaning at the cost of the other words for it. */
        void prefer(int meaning, int word, int gain, int loss) {
            changeWeight(meaning, word, learnsWith(gain));
            for (int other = 0; other < WORDS; other++) {
                if (other != word) {
                    changeWeight(meaning, other, -loss);
                }
            }
        }

        void forgetOtherMeanings(int meaning, int word, int loss) {
            for (int other = 0; other < MEANINGS; other++) {
                if (other != meaning) {
                    changeWeight(other, word, -loss);
                }
            }
        }

        int sumOfWeights() {
            int sum = 0;
            for (int weight : weights) {
                sum += weight;
            }
            return sum;
        }

        int countWords() {
            int words = 0;
            for (int meaning = 0; meaning < MEANINGS; meaning++) {
                if (wordFor(meaning) != NONE) {
                    words++;
                }
            }
            return words;
        }

        int countConfusions() {
            int pairs = 0;
            for (int meaning = 0; meaning < MEANINGS; meaning++) {
                int word = wordFor(meaning);
                for (int other = meaning + 1; other < MEANINGS; other++) {
                    if (word != NONE && word == wordFor(other)) {
                        pairs++;
                    }
                }
            }
            return pairs;
        }
    }

    /** The whole state that undo restores, and what happens in it. */
    private static final class Village {
        private final Speaker[] speakers;
        private final int[] settings;
        /** A row for counting the users of each word, made once; it is no part of the state. */
        private final int[] users;
        private int seed;
        private int meetings;
        private int successes;
        private int children;
        private int years;

        Village() {
            speakers = new Speaker[MOST_SPEAKERS];
            for (int number = 0; number < MOST_SPEAKERS; number++) {
                speakers[number] = new Speaker();
            }
            settings = new int[SETTINGS];
            users = new int[WORDS];
            settings[GAIN] = 4;
            settings[LOSS] = 1;
            settings[LIFE] = 60;
            settings[SHARE] = 50;
            seed = 1;
        }

        void copyFrom(Village other) {
            for (int number = 0; number < MOST_SPEAKERS; number++) {
                speakers[number].copyFrom(other.speakers[number]);
            }
            System.arraycopy(other.settings, 0, settings, 0, SETTINGS);
            seed = other.seed;
            meetings = other.meetings;
            successes = other.successes;
            children = other.children;
            years = other.years;
        }

        /** Answers the speaker with this number, or null if there is none. */
        Speaker find(int number) {
            return isBelow(number, MOST_SPEAKERS) && speakers[number].present ? speakers[number] : null;
        }

        int lowestFree() {
            for (int number = 0; number < MOST_SPEAKERS; number++) {
                if (!speakers[number].present) {
                    return number;
                }
            }
            return NONE;
        }

        void welcome(int number) {
            if (isBelow(number, MOST_SPEAKERS)) {
                speakers[number].arrive();
            }
        }

        int settingAt(int setting) {
            return isBelow(setting, SETTINGS) ? settings[setting] : 0;
        }

        void putSetting(int setting, int value) {
            if (isBelow(setting, SETTINGS)) {
                settings[setting] = value;
            }
        }

        int draw(int bound) {
            seed = (25173 * seed + 13849) % 65536;
            return bound < 1 ? 0 : seed / 16 % bound;
        }

        int countSpeakers() {
            int there = 0;
            for (int number = 0; number < MOST_SPEAKERS; number++) {
                if (speakers[number].present) {
                    there++;
                }
            }
            return there;
        }

        /** Answers the number of the speaker with so many others before, one of them left out, or NONE. */
        int numberInOrder(int before, int leftOut) {
            int passed = 0;
            for (int number = 0; number < MOST_SPEAKERS; number++) {
                if (!speakers[number].present || number == leftOut) {
                    continue;
                }
                if (passed == before) {
                    return number;
                }
                passed++;
            }
            return NONE;
        }

        /** Answers 10 * the word + the meaning as which it is heard. */
        int holdMeeting(Speaker sayer, Speaker hearer, int meaning) {
            int word = sayer.wordFor(meaning);
            if (word == NONE) {
                word = draw(WORDS);
            }
            int heard = hearer.meaningOf(word);
            if (heard == NONE) {
                heard = draw(MEANINGS);
            }
            meetings++;
            sayer.meetings++;
            hearer.meetings++;
            int loss = settings[LOSS];
            if (heard == meaning) {
                successes++;
                sayer.prefer(meaning, word, settings[GAIN], loss);
                hearer.prefer(meaning, word, settings[GAIN], loss);
                hearer.forgetOtherMeanings(meaning, word, loss);
            } else {
                sayer.changeWeight(meaning, word, -loss);
                hearer.changeWeight(meaning, word, 1);
                hearer.changeWeight(heard, word, -loss);
            }
            return 10 * word + heard;
        }

        /** Answers how many of these chance meetings succeed. */
        int holdChats(int number) {
            int before = successes;
            int there = countSpeakers();
            for (int held = 0; held < number; held++) {
                int sayer = numberInOrder(draw(there), NOBODY);
                int hearer = numberInOrder(draw(there - 1), sayer);
                int meaning = draw(MEANINGS);
                Speaker first = find(sayer);
                Speaker second = find(hearer);
                if (first != null && second != null) {
                    holdMeeting(first, second, meaning);
                }
            }
            return successes - before;
        }

        /** Answers how many children are born in these years. */
        int passYears(int number) {
            int before = children;
            for (int passed = 0; passed < number; passed++) {
                passYear();
            }
            return children - before;
        }

        private void passYear() {
            years++;
            for (int number = 0; number < MOST_SPEAKERS; number++) {
                if (speakers[number].present) {
                    speakers[number].years++;
                }
            }
            for (int number = 0; number < MOST_SPEAKERS; number++) {
                Speaker speaker = speakers[number];
                if (speaker.present && speaker.years > settings[LIFE]) {
                    speaker.beginLife(teacherFor(number), settings[SHARE]);
                    children++;
                }
            }
        }

        /** Answers the youngest one of the others who are not too old, or null if there is none. */
        private Speaker teacherFor(int child) {
            Speaker youngest = null;
            for (int number = 0; number < MOST_SPEAKERS; number++) {
                Speaker other = speakers[number];
                if (number == child || !other.present || other.years > settings[LIFE]) {
                    continue;
                }
                if (youngest == null || other.years < youngest.years) {
                    youngest = other;
                }
            }
            return youngest;
        }

        int numberOf(int what) {
            switch (what) {
                case 0:
                    return countSpeakers();
                case 1:
                    return seed;
                case 2:
                    return meetings;
                case 3:
                    return successes;
                case 4:
                    return children;
                case 5:
                    return years;
                default:
                    return sumOfWeights();
            }
        }

        int numberOfSpeaker(Speaker speaker, int what) {
            switch (what) {
                case 0:
                    return speaker.years;
                case 1:
                    return speaker.learnsWith(settings[GAIN]);
                case 2:
                    return speaker.countWords();
                case 3:
                    return speaker.countConfusions();
                default:
                    return speaker.meetings;
            }
        }

        private int sumOfWeights() {
            int sum = 0;
            for (int number = 0; number < MOST_SPEAKERS; number++) {
                if (speakers[number].present) {
                    sum += speakers[number].sumOfWeights();
                }
            }
            return sum;
        }

        int commonWord(int meaning) {
            countUsers(meaning);
            int best = NONE;
            int most = 0;
            for (int word = 0; word < WORDS; word++) {
                if (users[word] > most) {
                    most = users[word];
                    best = word;
                }
            }
            return best;
        }

        private void countUsers(int meaning) {
            for (int word = 0; word < WORDS; word++) {
                users[word] = 0;
            }
            for (int number = 0; number < MOST_SPEAKERS; number++) {
                int word = speakers[number].present ? speakers[number].wordFor(meaning) : NONE;
                if (isWord(word)) {
                    users[word]++;
                }
            }
        }
    }

    /** The states that undo can restore: a ring of rows that are made once and used again. */
    private static final class SavedStates {
        private final Village[] states;
        /** Where the next state is saved. */
        private int next;
        private int size;

        SavedStates() {
            states = new Village[MOST_SAVED];
            for (int place = 0; place < MOST_SAVED; place++) {
                states[place] = new Village();
            }
        }

        void keep(Village village) {
            if (!isBelow(next, MOST_SAVED)) {
                return;
            }
            states[next].copyFrom(village);
            next = (next + 1) % MOST_SAVED;
            size = Math.min(MOST_SAVED, size + 1);
        }

        /** Gives the village the state that was saved last and discards that; answers false if there is none. */
        boolean restore(Village village) {
            int last = (next + MOST_SAVED - 1) % MOST_SAVED;
            if (size < 1 || !isBelow(last, MOST_SAVED)) {
                return false;
            }
            village.copyFrom(states[last]);
            next = last;
            size--;
            return true;
        }
    }

    /** The typed text, and how it is read as a habit list. */
    private static final class HabitText {
        // Each of these names what must come next where the reader stands.
        private static final int SPEAKER_DIGIT = 0;
        private static final int POINT = 1;
        private static final int MEANING_DIGIT = 2;
        private static final int EQUALS_SIGN = 3;
        private static final int FIRST_GESTURE = 4;
        private static final int SECOND_GESTURE_OR_STAR = 5;
        private static final int THIRD_GESTURE_OR_STAR = 6;
        private static final int STAR = 7;
        private static final int FIRST_DIGIT = 8;
        private static final int SECOND_DIGIT_OR_END = 9;
        private static final int END = 10;
        private static final int WRONG = 11;

        private final char[] characters;
        private int length;

        HabitText() {
            characters = new char[MOST_CHARACTERS];
        }

        /** Answers false if the text is full. */
        boolean append(char character) {
            if (!isBelow(length, MOST_CHARACTERS)) {
                return false;
            }
            characters[length] = character;
            length++;
            return true;
        }

        private int signAt(int index) {
            return isBelow(index, length) && isBelow(index, MOST_CHARACTERS) ? characters[index] : 0;
        }

        private int digitAt(int index) {
            return signAt(index) - '0';
        }

        int firstError() {
            int expected = SPEAKER_DIGIT;
            for (int index = 0; index < length; index++) {
                expected = expectedAfter(expected, signAt(index));
                if (expected == WRONG) {
                    return index;
                }
            }
            return expected == SECOND_DIGIT_OR_END || expected == END ? NONE : length;
        }

        private static int expectedAfter(int expected, int sign) {
            switch (expected) {
                case SPEAKER_DIGIT:
                    return sign >= '0' && sign <= '7' ? POINT : WRONG;
                case POINT:
                    return sign == '.' ? MEANING_DIGIT : WRONG;
                case MEANING_DIGIT:
                    return sign >= '0' && sign <= '5' ? EQUALS_SIGN : WRONG;
                case EQUALS_SIGN:
                    return sign == '=' ? FIRST_GESTURE : WRONG;
                case FIRST_GESTURE:
                    return isGesture(sign) ? SECOND_GESTURE_OR_STAR : WRONG;
                case SECOND_GESTURE_OR_STAR:
                    return isGesture(sign) ? THIRD_GESTURE_OR_STAR : afterStar(sign);
                case THIRD_GESTURE_OR_STAR:
                    return isGesture(sign) ? STAR : afterStar(sign);
                case STAR:
                    return afterStar(sign);
                case FIRST_DIGIT:
                    if (sign == '0') {
                        return END;
                    }
                    return isDigit(sign) ? SECOND_DIGIT_OR_END : WRONG;
                case SECOND_DIGIT_OR_END:
                    return isDigit(sign) ? END : afterEnd(sign);
                case END:
                    return afterEnd(sign);
                default:
                    return WRONG;
            }
        }

        private static int afterStar(int sign) {
            return sign == '*' ? FIRST_DIGIT : WRONG;
        }

        private static int afterEnd(int sign) {
            return sign == ';' ? SPEAKER_DIGIT : WRONG;
        }

        private static boolean isGesture(int sign) {
            return sign == 'w' || sign == 'n';
        }

        private static boolean isDigit(int sign) {
            return sign >= '0' && sign <= '9';
        }

        /** Gives the habits of a text without a syntax error; answers how many, up to a speaker who is not there. */
        int giveHabits(Village village) {
            int given = 0;
            int start = 0;
            for (int end = 0; end <= length; end++) {
                if (end < length && signAt(end) != ';') {
                    continue;
                }
                Speaker pupil = village.find(digitAt(start));
                if (pupil == null) {
                    return given;
                }
                giveHabit(pupil, start, end);
                given++;
                start = end + 1;
            }
            return given;
        }

        private void giveHabit(Speaker pupil, int start, int end) {
            int code = 1;
            int weight = 0;
            for (int index = start + 4; index < end; index++) {
                int sign = signAt(index);
                if (isGesture(sign)) {
                    code = 2 * code + (sign == 'n' ? 1 : 0);
                } else if (isDigit(sign)) {
                    weight = 10 * weight + digitAt(index);
                }
            }
            pupil.putWeight(digitAt(start + 2), wordOfCode(code), weight);
        }
    }
}
