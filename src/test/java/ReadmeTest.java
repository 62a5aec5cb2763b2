import java.io.File;
import java.io.IOException;
import java.lang.reflect.Field;
import java.lang.reflect.Method;
import java.lang.reflect.Modifier;
import java.nio.charset.StandardCharsets;
import java.nio.file.Files;
import java.nio.file.Path;
import java.util.Comparator;
import java.util.List;
import java.util.regex.Matcher;
import java.util.regex.Pattern;
import java.util.stream.Collectors;
import java.util.stream.Stream;
import javax.tools.ToolProvider;

/** What README.md says holds: its program compiles and prints what stands there, and all names are right. */
public final class ReadmeTest {
    private static final Path TESTS = Path.of("src/test/java");
    private static final Due due = new Due("README.md: ");

    public static void main(String[] args) throws IOException, InterruptedException {
        String page = Files.readString(Path.of("README.md"));
        program(block(page, "java"), block(page, "text"));
        callsAndConstants(page);
        tests(page);
        due.end();
    }

    private static String block(String page, String kind) {
        Matcher matcher = Pattern.compile("(?s)```" + kind + "\n(.*?)```\n").matcher(page);
        due.holds("there is a block of " + kind, matcher.find());
        return matcher.group(1);
    }

    private static void program(String source, String printed) throws IOException, InterruptedException {
        Path folder = Files.createTempDirectory("readme");
        Path file = Files.writeString(folder.resolve("Village.java"), source);
        String classes = System.getProperty("java.class.path");
        int compiled = ToolProvider.getSystemJavaCompiler().run(null, null, null, "-cp", classes, "-d",
            folder.toString(), file.toString());
        due.is("exit code of javac", compiled, 0);
        Process run = new ProcessBuilder(Path.of(System.getProperty("java.home"), "bin", "java").toString(), "-cp",
            folder + File.pathSeparator + classes, "Village").redirectErrorStream(true).start();
        String got = new String(run.getInputStream().readAllBytes(), StandardCharsets.UTF_8);
        due.is("exit code of Village", run.waitFor(), 0);
        due.holds("Village prints what is told, but it prints:\n" + got, got.replace("\r", "").equals(printed));
        try (Stream<Path> all = Files.walk(folder)) {
            all.sorted(Comparator.reverseOrder()).map(Path::toFile).forEach(File::delete);
        }
    }

    private static void callsAndConstants(String page) throws IOException {
        String table = page.substring(page.indexOf("### The calls"), page.indexOf("### What to know"));
        for (Method method : GesturePidgin.class.getDeclaredMethods()) {
            if (Modifier.isPublic(method.getModifiers())) {
                String names = ", \\w+".repeat(method.getParameterCount()).replaceFirst(", ", "");
                due.holds("the call " + method, Pattern.compile("`" + method.getName() + "\\(" + names + "\\)`")
                    .matcher(table).find());
            }
        }
        for (Field field : GesturePidgin.class.getFields()) {
            try {
                due.holds("the constant " + field.getName(), Pattern.compile("`" + field.getName() + "` \\("
                    + field.getInt(null) + "[:)]").matcher(page).find());
            } catch (IllegalAccessException e) {
                due.holds("the constant " + field.getName() + " can be seen", false);
            }
        }
    }

    private static void tests(String page) throws IOException {
        String part = page.substring(page.indexOf("What the tests are:"));
        try (Stream<Path> files = Files.list(TESTS)) {
            List<String> names = files.map(file -> file.getFileName().toString().replace(".java", ""))
                .collect(Collectors.toList());
            for (String name : names) {
                due.holds("the test or helper " + name, part.contains("`" + name + "`"));
            }
            Matcher named = Pattern.compile("`([A-Z]\\w+)`").matcher(part);
            while (named.find()) {
                due.holds("there is a " + named.group(1), names.contains(named.group(1)));
            }
        }
    }
}
