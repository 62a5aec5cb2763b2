import java.util.ArrayDeque;
import java.util.ArrayList;
import java.util.HashMap;
import java.util.List;
import java.util.Map;
import java.util.TreeMap;
import java.util.regex.Pattern;

/**
 * The document once more, for comparing: told by maps, strings, fresh copies and regular expressions, so that it
 * shares no way of working with the class.
 */
final class NaivePidgin {
    private static final String[] WORDS =
        {"w", "n", "ww", "wn", "nw", "nn", "www", "wwn", "wnw", "wnn", "nww", "nwn", "nnw", "nnn"};
    private static final Pattern LIST = Pattern.compile(
        "[0-7]\\.[0-5]=[wn]{1,3}\\*(0|[1-9][0-9]?)(;[0-7]\\.[0-5]=[wn]{1,3}\\*(0|[1-9][0-9]?))*");
    private static final int[][] RANGES = {{1, 9}, {0, 9}, {5, 99}, {0, 100}};

    private static final class Person {
        final Map<String, Integer> weights = new HashMap<>();
        int age;
        int met;

        Person copy() {
            Person copy = new Person();
            copy.weights.putAll(weights);
            copy.age = age;
            copy.met = met;
            return copy;
        }

        int get(int meaning, int word) {
            return weights.getOrDefault(meaning + ":" + word, 0);
        }

        void put(int meaning, int word, int weight) {
            weights.put(meaning + ":" + word, Math.min(99, Math.max(0, weight)));
        }

        int word(int meaning) {
            int best = -6;
            for (int word = 13; word >= 0; word--) {
                if (get(meaning, word) > 0 && (best < 0 || get(meaning, word) >= get(meaning, best))) {
                    best = word;
                }
            }
            return best;
        }

        int heard(int word) {
            int best = -6;
            for (int meaning = 5; meaning >= 0; meaning--) {
                if (get(meaning, word) > 0 && (best < 0 || get(meaning, word) >= get(best, word))) {
                    best = meaning;
                }
            }
            return best;
        }
    }

    private static final class State {
        final TreeMap<Integer, Person> people = new TreeMap<>();
        int[] settings = {4, 1, 60, 50};
        long seed = 1;
        int meetings;
        int successes;
        int children;
        int years;

        State copy() {
            State copy = new State();
            people.forEach((number, person) -> copy.people.put(number, person.copy()));
            copy.settings = settings.clone();
            copy.seed = seed;
            copy.meetings = meetings;
            copy.successes = successes;
            copy.children = children;
            copy.years = years;
            return copy;
        }

        int draw(int bound) {
            seed = (25173 * seed + 13849) % 65536;
            return (int) (seed / 16 % bound);
        }

        int learns(Person person) {
            int learns = settings[0] - person.age / 20;
            return learns < 1 ? 1 : learns;
        }

        int meeting(Person sayer, Person hearer, int meaning) {
            int word = sayer.word(meaning) >= 0 ? sayer.word(meaning) : draw(14);
            int heard = hearer.heard(word) >= 0 ? hearer.heard(word) : draw(6);
            meetings++;
            sayer.met++;
            hearer.met++;
            if (heard == meaning) {
                successes++;
                for (Person person : List.of(sayer, hearer)) {
                    for (int other = 0; other < 14; other++) {
                        int change = other == word ? learns(person) : -settings[1];
                        person.put(meaning, other, person.get(meaning, other) + change);
                    }
                }
                for (int other = 0; other < 6; other++) {
                    if (other != meaning) {
                        hearer.put(other, word, hearer.get(other, word) - settings[1]);
                    }
                }
            } else {
                sayer.put(meaning, word, sayer.get(meaning, word) - settings[1]);
                hearer.put(meaning, word, hearer.get(meaning, word) + 1);
                hearer.put(heard, word, hearer.get(heard, word) - settings[1]);
            }
            return 10 * word + heard;
        }

        int chats(int number) {
            int before = successes;
            for (int i = 0; i < number; i++) {
                List<Person> all = new ArrayList<>(people.values());
                Person sayer = all.remove(draw(all.size()));
                Person hearer = all.get(draw(all.size()));
                meeting(sayer, hearer, draw(6));
            }
            return successes - before;
        }

        int year() {
            years++;
            int born = 0;
            people.values().forEach(person -> person.age++);
            for (int number : new ArrayList<>(people.keySet())) {
                if (people.get(number).age <= settings[2]) {
                    continue;
                }
                Person teacher = people.entrySet().stream()
                    .filter(e -> e.getKey() != number && e.getValue().age <= settings[2])
                    .min(Map.Entry.<Integer, Person>comparingByValue((a, b) -> Integer.compare(a.age, b.age))
                        .thenComparing(Map.Entry.comparingByKey()))
                    .map(Map.Entry::getValue).orElse(new Person());
                Person child = new Person();
                teacher.weights.forEach((key, weight) -> child.weights.put(key, weight * settings[3] / 100));
                people.put(number, child);
                born++;
            }
            children += born;
            return born;
        }
    }

    private State state = new State();
    private final ArrayDeque<State> saved = new ArrayDeque<>();
    private String text = "";

    private void save() {
        saved.addLast(state.copy());
        if (saved.size() > 6) {
            saved.removeFirst();
        }
    }

    private boolean nobody(int speaker) {
        return !state.people.containsKey(speaker);
    }

    private static boolean out(int value, int least, int most) {
        return value < least || value > most;
    }

    int come() {
        for (int number = 0; number < 8; number++) {
            if (nobody(number)) {
                save();
                state.people.put(number, new Person());
                return number;
            }
        }
        return -4;
    }

    int go(int speaker) {
        if (nobody(speaker)) {
            return -1;
        }
        save();
        state.people.remove(speaker);
        return state.people.size();
    }

    int set(int setting, int value) {
        if (out(setting, 0, 3)) {
            return -1;
        }
        if (out(value, RANGES[setting][0], RANGES[setting][1])) {
            return -2;
        }
        save();
        int previous = state.settings[setting];
        state.settings[setting] = value;
        return previous;
    }

    int setSeed(int seed) {
        if (out(seed, 0, 65535)) {
            return -2;
        }
        save();
        long previous = state.seed;
        state.seed = seed;
        return (int) previous;
    }

    int teach(int speaker, int meaning, int word, int weight) {
        int previous = weight(speaker, meaning, word);
        if (previous < 0) {
            return previous;
        }
        if (out(weight, 0, 99)) {
            return -2;
        }
        save();
        state.people.get(speaker).put(meaning, word, weight);
        return previous;
    }

    int setAge(int speaker, int age) {
        if (nobody(speaker)) {
            return -1;
        }
        if (out(age, 0, 99)) {
            return -2;
        }
        save();
        int previous = state.people.get(speaker).age;
        state.people.get(speaker).age = age;
        return previous;
    }

    int meet(int sayer, int hearer, int meaning) {
        if (nobody(sayer) || nobody(hearer) || out(meaning, 0, 5)) {
            return -1;
        }
        if (sayer == hearer) {
            return -3;
        }
        save();
        return state.meeting(state.people.get(sayer), state.people.get(hearer), meaning);
    }

    int chat(int meetings) {
        if (out(meetings, 1, 200)) {
            return -2;
        }
        if (state.people.size() < 2) {
            return -3;
        }
        save();
        return state.chats(meetings);
    }

    int age(int years) {
        if (out(years, 1, 99)) {
            return -2;
        }
        save();
        int born = 0;
        for (int i = 0; i < years; i++) {
            born += state.year();
        }
        return born;
    }

    int count(int what) {
        if (out(what, 0, 6)) {
            return -2;
        }
        int sum = 0;
        for (Person person : state.people.values()) {
            sum += person.weights.values().stream().mapToInt(Integer::intValue).sum();
        }
        return new int[] {state.people.size(), (int) state.seed, state.meetings, state.successes, state.children,
            state.years, sum}[what];
    }

    int setting(int setting) {
        return out(setting, 0, 3) ? -1 : state.settings[setting];
    }

    int weight(int speaker, int meaning, int word) {
        if (nobody(speaker) || out(meaning, 0, 5) || out(word, 0, 13)) {
            return -1;
        }
        return state.people.get(speaker).get(meaning, word);
    }

    int speaker(int speaker, int what) {
        if (nobody(speaker)) {
            return -1;
        }
        if (out(what, 0, 4)) {
            return -2;
        }
        Person person = state.people.get(speaker);
        int words = 0;
        int pairs = 0;
        for (int meaning = 0; meaning < 6; meaning++) {
            words += person.word(meaning) >= 0 ? 1 : 0;
            for (int other = 0; other < meaning; other++) {
                pairs += person.word(meaning) >= 0 && person.word(meaning) == person.word(other) ? 1 : 0;
            }
        }
        return new int[] {person.age, state.learns(person), words, pairs, person.met}[what];
    }

    int wordOf(int speaker, int meaning) {
        return nobody(speaker) || out(meaning, 0, 5) ? -1 : state.people.get(speaker).word(meaning);
    }

    int hears(int speaker, int word) {
        return nobody(speaker) || out(word, 0, 13) ? -1 : state.people.get(speaker).heard(word);
    }

    int gesture(int word, int index) {
        if (out(word, 0, 13)) {
            return -1;
        }
        return out(index, 0, WORDS[word].length() - 1) ? -6 : WORDS[word].charAt(index);
    }

    int agreement(int speaker, int other, int way) {
        if (nobody(speaker) || nobody(other)) {
            return -1;
        }
        if (out(way, 0, 1)) {
            return -2;
        }
        int agreed = 0;
        for (int meaning = 0; meaning < 6; meaning++) {
            int word = wordOf(speaker, meaning);
            agreed += word >= 0 && word == wordOf(other, meaning) ? 1 : 0;
        }
        return agreed;
    }

    int understanding(int speaker, int other) {
        if (nobody(speaker) || nobody(other)) {
            return -1;
        }
        int understood = 0;
        for (int meaning = 0; meaning < 6; meaning++) {
            int word = wordOf(speaker, meaning);
            understood += word >= 0 && hears(other, word) == meaning ? 1 : 0;
        }
        return understood;
    }

    int common(int meaning) {
        if (out(meaning, 0, 5)) {
            return -1;
        }
        int[] users = new int[14];
        state.people.values().stream().mapToInt(p -> p.word(meaning)).filter(w -> w >= 0).forEach(w -> users[w]++);
        int best = 13;
        for (int word = 13; word >= 0; word--) {
            best = users[word] >= users[best] ? word : best;
        }
        return users[best] == 0 ? -6 : best;
    }

    int ifMet(int sayer, int hearer, int meaning, int what) {
        if (nobody(sayer) || nobody(hearer) || out(meaning, 0, 5)) {
            return -1;
        }
        if (out(what, 0, 3)) {
            return -2;
        }
        if (sayer == hearer) {
            return -3;
        }
        State before = state;
        state = state.copy();
        int met = state.meeting(state.people.get(sayer), state.people.get(hearer), meaning);
        int agreed = agreement(sayer, hearer, 0);
        state = before;
        return new int[] {met / 10, met % 10, met % 10 == meaning ? 1 : 0, agreed}[what];
    }

    int ifChat(int meetings) {
        if (out(meetings, 1, 200)) {
            return -2;
        }
        return state.people.size() < 2 ? -3 : state.copy().chats(meetings);
    }

    int bestSayer(int speaker) {
        if (nobody(speaker)) {
            return -1;
        }
        int best = -6;
        for (int other : state.people.descendingKeySet()) {
            if (other != speaker
                && (best < 0 || understanding(other, speaker) >= understanding(best, speaker))) {
                best = other;
            }
        }
        return best;
    }

    int type(int code) {
        if (out(code, 33, 126)) {
            return -2;
        }
        if (text.length() == 80) {
            return -4;
        }
        text += (char) code;
        return text.length();
    }

    int clearText() {
        int previous = text.length();
        text = "";
        return previous;
    }

    /** Each beginning of a habit list can be ended by an end of the shortest habit, perhaps of no length. */
    private static boolean begins(String beginning) {
        String shortest = "0.0=w*0";
        for (int i = 0; i <= shortest.length(); i++) {
            if (LIST.matcher(beginning + shortest.substring(i)).matches()) {
                return true;
            }
        }
        return false;
    }

    int syntaxError() {
        for (int i = 0; i < text.length(); i++) {
            if (!begins(text.substring(0, i + 1))) {
                return i;
            }
        }
        return LIST.matcher(text).matches() ? -6 : text.length();
    }

    int learn() {
        if (!LIST.matcher(text).matches()) {
            return -5;
        }
        save();
        int given = 0;
        for (String habit : text.split(";")) {
            String[] parts = habit.split("[.=*]");
            Person pupil = state.people.get(Integer.parseInt(parts[0]));
            if (pupil == null) {
                break;
            }
            pupil.put(Integer.parseInt(parts[1]), List.of(WORDS).indexOf(parts[2]), Integer.parseInt(parts[3]));
            given++;
        }
        text = "";
        return given;
    }

    int undo() {
        if (saved.isEmpty()) {
            return -3;
        }
        state = saved.removeLast();
        return saved.size();
    }

    long digest() {
        List<Integer> list = new ArrayList<>();
        for (int what = 0; what < 7; what++) {
            list.add(count(what));
        }
        for (int setting : state.settings) {
            list.add(setting);
        }
        for (int number : state.people.keySet()) {
            list.add(number);
            for (int what = 0; what < 5; what++) {
                list.add(speaker(number, what));
            }
            for (int meaning = 0; meaning < 6; meaning++) {
                list.add(wordOf(number, meaning));
            }
        }
        for (int meaning = 0; meaning < 6; meaning++) {
            list.add(common(meaning));
        }
        for (int lower : state.people.keySet()) {
            for (int higher : state.people.tailMap(lower, false).keySet()) {
                list.add(agreement(lower, higher, 0));
                list.add(understanding(lower, higher));
            }
        }
        long hash = 473;
        for (int value : list) {
            hash = 31 * hash + value;
        }
        return hash;
    }
}
