import java.io.IOException;
import java.lang.reflect.Constructor;
import java.lang.reflect.Field;
import java.lang.reflect.Method;
import java.lang.reflect.Modifier;
import java.nio.file.Files;
import java.nio.file.Path;
import java.util.ArrayList;
import java.util.List;
import java.util.TreeSet;
import java.util.regex.Matcher;
import java.util.regex.Pattern;

/** The public face, and those rules of LANGUAGE.md that the source's words and the class's shape show. */
public final class FaceTest {
    private static final Path SOURCE = Path.of("src/main/java/GesturePidgin.java");
    private static final String[] FACE = {"come()", "go(int)", "set(int,int)", "setSeed(int)",
        "teach(int,int,int,int)", "setAge(int,int)", "meet(int,int,int)", "chat(int)", "age(int)", "count(int)",
        "setting(int)", "weight(int,int,int)", "speaker(int,int)", "wordOf(int,int)", "hears(int,int)",
        "gesture(int,int)", "agreement(int,int,int)", "understanding(int,int)", "common(int)",
        "ifMet(int,int,int,int)", "ifChat(int)", "bestSayer(int)", "type(int)", "clearText()", "syntaxError()",
        "learn()", "undo()", "digest()"};
    private static final String[] CONSTANTS =
        {"NO_SUCH", "BAD_VALUE", "NOT_POSSIBLE", "LIMIT", "BAD_TEXT", "NONE"};
    private static final String[] FORBIDDEN = {"throw", "throws", "try", "catch", "finally", "synchronized",
        "assert", "import", "package", "equals", "hashCode", "toString", "record", "native", "volatile"};

    private static final List<String> LIBRARY = List.of("Math.max", "Math.min", "System.arraycopy");

    private static final Due due = new Due();

    public static void main(String[] args) throws IOException, IllegalAccessException {
        methods();
        constants();
        insideClasses();
        privateNames();
        sizes();
        words();
        library();
        methodLengths();
        due.end();
    }

    private static void methods() {
        TreeSet<String> want = new TreeSet<>(List.of(FACE));
        TreeSet<String> got = new TreeSet<>();
        for (Method method : GesturePidgin.class.getDeclaredMethods()) {
            if (Modifier.isPrivate(method.getModifiers())) {
                continue;
            }
            due.is("public " + method, Modifier.isPublic(method.getModifiers()) ? 1 : 0, 1);
            Class<?> type = method.getName().equals("digest") ? long.class : int.class;
            due.is("type of " + method, method.getReturnType() == type ? 1 : 0, 1);
            List<String> parameters = new ArrayList<>();
            for (Class<?> parameter : method.getParameterTypes()) {
                parameters.add(parameter.getName());
            }
            got.add(method.getName() + "(" + String.join(",", parameters) + ")");
        }
        due.is("the face is " + got, got.equals(want) ? 1 : 0, 1);
        due.is("final", Modifier.isFinal(GesturePidgin.class.getModifiers()) ? 1 : 0, 1);
        Constructor<?>[] constructors = GesturePidgin.class.getDeclaredConstructors();
        due.is("constructors", constructors.length, 1);
        due.is("public constructor", Modifier.isPublic(constructors[0].getModifiers()) ? 1 : 0, 1);
    }

    private static void constants() throws IllegalAccessException {
        int at = 0;
        for (Field field : GesturePidgin.class.getDeclaredFields()) {
            if (Modifier.isPrivate(field.getModifiers())) {
                continue;
            }
            due.is("constant " + field, at < 6 && field.getName().equals(CONSTANTS[at]) ? 1 : 0, 1);
            due.is("value of " + field, field.getInt(null), -1 - at);
            due.is("modifiers of " + field, field.getModifiers(),
                Modifier.PUBLIC | Modifier.STATIC | Modifier.FINAL);
            at++;
        }
        due.is("number of constants", at, 6);
    }

    private static void insideClasses() {
        Class<?>[] inside = GesturePidgin.class.getDeclaredClasses();
        due.is("at most twelve classes", inside.length < 12 ? 1 : 0, 1);
        for (Class<?> type : inside) {
            due.is("static " + type, Modifier.isStatic(type.getModifiers()) ? 1 : 0, 1);
            due.is("not public " + type, Modifier.isPublic(type.getModifiers()) ? 1 : 0, 0);
            for (Field field : type.getDeclaredFields()) {
                boolean free = Modifier.isStatic(field.getModifiers()) && !Modifier.isFinal(field.getModifiers());
                due.is("no static state: " + field, free ? 1 : 0, 0);
            }
        }
    }

    private static void privateNames() {
        TreeSet<String> names = new TreeSet<>();
        for (String method : FACE) {
            names.add(method.substring(0, method.indexOf('(')));
        }
        List<Class<?>> types = new ArrayList<>(List.of(GesturePidgin.class.getDeclaredClasses()));
        types.add(GesturePidgin.class);
        for (Class<?> type : types) {
            for (Method method : type.getDeclaredMethods()) {
                boolean hidden = type != GesturePidgin.class || Modifier.isPrivate(method.getModifiers());
                due.is("name of " + method, hidden && names.contains(method.getName()) ? 1 : 0, 0);
            }
        }
    }

    /** Rule 11: seven parameters, twenty fields beside the constants. */
    private static void sizes() {
        List<Class<?>> types = new ArrayList<>(List.of(GesturePidgin.class.getDeclaredClasses()));
        types.add(GesturePidgin.class);
        for (Class<?> type : types) {
            int fields = 0;
            for (Field field : type.getDeclaredFields()) {
                fields += Modifier.isStatic(field.getModifiers()) ? 0 : 1;
            }
            due.is("at most twenty fields in " + type, fields <= 20 ? 1 : 0, 1);
            for (Method method : type.getDeclaredMethods()) {
                due.is("at most seven parameters of " + method, method.getParameterCount() <= 7 ? 1 : 0, 1);
            }
        }
    }

    private static String sourceWithoutComments() throws IOException {
        return Files.readString(SOURCE).replaceAll("(?s)/\\*.*?\\*/", "").replaceAll("//[^\n]*", "");
    }

    private static void words() throws IOException {
        String source = sourceWithoutComments();
        for (String word : FORBIDDEN) {
            Matcher matcher = Pattern.compile("\\b" + word + "\\b").matcher(source);
            due.is("'" + word + "' in the source", matcher.find() ? 1 : 0, 0);
        }
        due.is("lambdas", source.contains("->") ? 1 : 0, 0);
        due.is("method references", source.contains("::") ? 1 : 0, 0);
        due.is("only plain signs", source.chars().allMatch(c -> c < 128) ? 1 : 0, 1);
    }

    /** Rule 4: of the library only what stands there. */
    private static void library() throws IOException {
        Matcher matcher = Pattern.compile("\\b[A-Z]\\w*\\.\\w+").matcher(sourceWithoutComments());
        while (matcher.find()) {
            due.is("the library's " + matcher.group(), LIBRARY.contains(matcher.group()) ? 1 : 0, 1);
        }
    }

    /** Rule 11: methods of some sixty lines. */
    private static void methodLengths() throws IOException {
        Matcher matcher = Pattern.compile("(?ms)^( {4}| {8})(?! )[^\n;=]*\\([^\n;=]*\\) \\{$.*?^\\1\\}$")
            .matcher(sourceWithoutComments());
        int methods = 0;
        while (matcher.find()) {
            methods++;
            String text = matcher.group();
            due.is("lines of " + text.substring(0, text.indexOf('\n')).strip(), text.lines().count() <= 60 ? 1 : 0, 1);
        }
        due.is("methods are found", methods > 80 ? 1 : 0, 1);
    }
}
