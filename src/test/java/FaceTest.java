import java.io.IOException;
import java.lang.reflect.Constructor;
import java.lang.reflect.Field;
import java.lang.reflect.Method;
import java.lang.reflect.Modifier;
import java.nio.file.Files;
import java.nio.file.Path;
import java.util.ArrayList;
import java.util.List;
import java.util.TreeSet;

/** The section "The public face" of the document: its lines and the members of the class are the same. */
public final class FaceTest {
    private static final Due due = new Due("The public face: ");

    public static void main(String[] args) throws IOException, IllegalAccessException {
        List<String> lines = lines();
        due.is("calls and constants of the document", lines.size(), 28 + 6 + 1);
        TreeSet<String> want = new TreeSet<>(lines);
        TreeSet<String> got = new TreeSet<>(members());
        for (String line : want) {
            due.holds("the class has " + line, got.contains(line));
        }
        for (String member : got) {
            due.holds("the document has " + member, want.contains(member));
        }
        due.holds("the class is public and final", GesturePidgin.class.getModifiers()
            == (Modifier.PUBLIC | Modifier.FINAL));
        due.holds("it extends nothing", GesturePidgin.class.getSuperclass() == Object.class);
        classesInside();
        due.end();
    }

    /** The document's lines without the names of parameters, as "public int go(int)". */
    private static List<String> lines() throws IOException {
        String document = Files.readString(Path.of("../shared/DOC.md"));
        String face = document.substring(document.indexOf("## The public face"));
        String code = face.substring(face.indexOf("```java") + 7, face.indexOf("```\n\n"));
        List<String> lines = new ArrayList<>();
        for (String line : code.split("\n")) {
            if (line.endsWith(";")) {
                lines.add(line.strip().replace(";", "").replaceAll("int \\w+(?=[,)])", "int").replace(" =", ""));
            }
        }
        return lines;
    }

    /** All members that aren't private, in the same form. */
    private static List<String> members() throws IllegalAccessException {
        List<String> members = new ArrayList<>();
        for (Constructor<?> constructor : GesturePidgin.class.getDeclaredConstructors()) {
            members.add(words(constructor.getModifiers(), "GesturePidgin", constructor.getParameterTypes()));
        }
        for (Method method : GesturePidgin.class.getDeclaredMethods()) {
            members.add(words(method.getModifiers(), method.getReturnType() + " " + method.getName(),
                method.getParameterTypes()));
        }
        for (Field field : GesturePidgin.class.getDeclaredFields()) {
            if (!Modifier.isPrivate(field.getModifiers()) && !field.isSynthetic()) {
                String value = Modifier.isStatic(field.getModifiers()) ? " " + field.get(null) : "";
                members.add(Modifier.toString(field.getModifiers()) + " " + field.getType() + " " + field.getName()
                    + value);
            }
        }
        members.removeIf(member -> member.startsWith("private "));
        return members;
    }

    private static String words(int modifiers, String name, Class<?>[] parameters) {
        List<String> types = new ArrayList<>();
        for (Class<?> parameter : parameters) {
            types.add(parameter.getName());
        }
        return Modifier.toString(modifiers) + " " + name + "(" + String.join(", ", types) + ")";
    }

    private static void classesInside() {
        for (Class<?> type : GesturePidgin.class.getDeclaredClasses()) {
            int modifiers = type.getModifiers();
            due.holds(type + " is private or package-visible", !Modifier.isPublic(modifiers)
                && !Modifier.isProtected(modifiers));
            due.holds(type + " is static", Modifier.isStatic(modifiers));
        }
    }
}
