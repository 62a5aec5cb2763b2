import com.sun.source.tree.CompilationUnitTree;
import com.sun.source.util.JavacTask;
import com.sun.source.util.Trees;
import java.io.IOException;
import java.nio.file.Path;
import java.util.List;
import javax.tools.JavaCompiler;
import javax.tools.StandardJavaFileManager;
import javax.tools.ToolProvider;

/**
 * Those rules of ../shared/LANGUAGE.md that the source shows, as the compiler reads it. Rule 7 (no call throws or
 * fails to end) is ModelTest's, and how much a run makes (rule 12) is RoomTest's.
 */
public final class LanguageTest {
    private static final Path SOURCE = Path.of("src/main/java/GesturePidgin.java");

    public static void main(String[] args) throws IOException {
        Due due = new Due("LANGUAGE.md, ");
        JavaCompiler compiler = ToolProvider.getSystemJavaCompiler();
        try (StandardJavaFileManager files = compiler.getStandardFileManager(null, null, null)) {
            JavacTask task = (JavacTask) compiler.getTask(null, files, null, List.of("-proc:none"), null,
                files.getJavaFileObjects(SOURCE));
            CompilationUnitTree unit = task.parse().iterator().next();
            task.analyze();
            LanguageRules rules = new LanguageRules(unit, Trees.instance(task), due);
            rules.scan(unit, null);
            rules.end();
        }
        due.end();
    }
}
