import java.util.Random;

/** All promises: plays long random runs on the class and on the naive model, and compares each answer. */
public final class ModelTest {
    private static final int RUNS = 400;
    private static final int CALLS = 512;
    private static final int[] EDGES = {Integer.MIN_VALUE, -65536, -1, 0, 1, 5, 6, 8, 13, 14, 99, 100, 200, 201,
        65535, 65536, 65584, Integer.MAX_VALUE};
    private static final String[] WORDS = {"w", "n", "wn", "nw", "nn", "wwn", "nnn", "wnw"};

    private static final Due due = new Due();

    private final Random random;
    private final GesturePidgin x = new GesturePidgin();
    private final NaivePidgin y = new NaivePidgin();
    private final int run;
    private int call = 0;
    private String pending = "";

    private ModelTest(int run) {
        this.run = run;
        this.random = new Random(1000 + run);
    }

    public static void main(String[] args) {
        for (int run = 0; run < RUNS; run++) {
            ModelTest test = new ModelTest(run);
            while (test.call < CALLS) {
                test.step();
            }
        }
        due.end();
    }

    /** Mostly a value of the range, now and then one from far or just outside. */
    private int some(int least, int most) {
        int kind = random.nextInt(40);
        if (kind == 0) {
            return EDGES[random.nextInt(EDGES.length)];
        }
        if (kind == 1) {
            return random.nextBoolean() ? least - 1 : most + 1;
        }
        if (kind < 5) {
            return random.nextBoolean() ? least : most;
        }
        return least + random.nextInt(most - least + 1);
    }

    private int speaker() {
        return some(0, run % 3 == 0 ? 2 : 7);
    }

    private int meaning() {
        return some(0, 5);
    }

    private int word() {
        return some(0, 13);
    }

    private void same(String name, long got, long want) {
        due.is("run " + run + ", call " + call + ": " + name, got, want);
        call++;
    }

    private void step() {
        if (!pending.isEmpty()) {
            int code = pending.charAt(0);
            pending = pending.substring(1);
            same("type", x.type(code), y.type(code));
            return;
        }
        int kind = random.nextInt(44);
        if (kind < 18) {
            change(kind);
        } else if (kind < 34) {
            ask(kind);
        } else {
            others(kind);
        }
    }

    private void change(int kind) {
        int a = speaker();
        int b = speaker();
        int c = meaning();
        int d = word();
        int e = some(0, 99);
        int years = random.nextInt(3) == 0 ? some(1, 99) : some(1, 9);
        int meetings = some(1, random.nextInt(3) == 0 ? 200 : 20);
        int setting = some(0, 3);
        int value = some(0, new int[] {9, 9, 99, 100}[Math.floorMod(setting, 4)]);
        int seed = some(0, 65535);
        switch (kind) {
            case 0, 1, 2 -> same("come", x.come(), y.come());
            case 3 -> same("go", x.go(a), y.go(a));
            case 4, 5 -> same("set", x.set(setting, value), y.set(setting, value));
            case 6 -> same("setSeed", x.setSeed(seed), y.setSeed(seed));
            case 7, 8, 9 -> same("teach", x.teach(a, c, d, e), y.teach(a, c, d, e));
            case 10 -> same("setAge", x.setAge(a, e), y.setAge(a, e));
            case 11, 12, 13 -> same("meet", x.meet(a, b, c), y.meet(a, b, c));
            case 14, 15 -> same("chat", x.chat(meetings), y.chat(meetings));
            default -> same("age", x.age(years), y.age(years));
        }
    }

    private void ask(int kind) {
        int a = speaker();
        int b = speaker();
        int c = meaning();
        int d = word();
        int what = some(0, 6);
        int way = some(0, 1);
        int index = some(0, 3);
        int which = some(0, 3);
        int meetings = some(1, 200);
        switch (kind) {
            case 18 -> same("count", x.count(what), y.count(what));
            case 19 -> same("setting", x.setting(which), y.setting(which));
            case 20 -> same("weight", x.weight(a, c, d), y.weight(a, c, d));
            case 21 -> same("speaker", x.speaker(a, what), y.speaker(a, what));
            case 22 -> same("wordOf", x.wordOf(a, c), y.wordOf(a, c));
            case 23 -> same("hears", x.hears(a, d), y.hears(a, d));
            case 24 -> same("gesture", x.gesture(d, index), y.gesture(d, index));
            case 25, 26 -> same("agreement", x.agreement(a, b, way), y.agreement(a, b, way));
            case 27 -> same("understanding", x.understanding(a, b), y.understanding(a, b));
            case 28 -> same("common", x.common(c), y.common(c));
            case 29, 30 -> same("ifMet", x.ifMet(a, b, c, which), y.ifMet(a, b, c, which));
            case 31 -> same("ifChat", x.ifChat(meetings), y.ifChat(meetings));
            default -> same("bestSayer", x.bestSayer(a), y.bestSayer(a));
        }
    }

    private void others(int kind) {
        int code = some(33, 126);
        switch (kind) {
            case 34 -> pending = someList();
            case 35 -> same("type", x.type(code), y.type(code));
            case 36 -> same("clearText", x.clearText(), y.clearText());
            case 37 -> same("syntaxError", x.syntaxError(), y.syntaxError());
            case 38, 39 -> same("learn", x.learn(), y.learn());
            case 40, 41 -> same("undo", x.undo(), y.undo());
            default -> same("digest", x.digest(), y.digest());
        }
    }

    private String someList() {
        StringBuilder list = new StringBuilder();
        int habits = 1 + random.nextInt(3);
        for (int i = 0; i < habits; i++) {
            list.append(i == 0 ? "" : ";").append(random.nextInt(4)).append('.').append(random.nextInt(6))
                .append('=').append(WORDS[random.nextInt(WORDS.length)]).append('*').append(random.nextInt(100));
        }
        if (random.nextInt(4) == 0) {
            list.setCharAt(random.nextInt(list.length()), "07.5=wn*9;x"
                .charAt(random.nextInt(11)));
        }
        return list.toString();
    }
}
