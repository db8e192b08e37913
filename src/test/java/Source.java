import com.sun.source.tree.CompilationUnitTree;
import com.sun.source.util.JavacTask;
import com.sun.source.util.Trees;
import java.io.IOException;
import java.io.UncheckedIOException;
import java.nio.charset.StandardCharsets;
import java.nio.file.Files;
import java.nio.file.Path;
import java.util.List;
import javax.tools.JavaCompiler;
import javax.tools.StandardJavaFileManager;
import javax.tools.ToolProvider;

/** The program's source: its text, and its tree as javac reads it, with what the names in it mean. */
final class Source {
    private static final Path FILE = Path.of("src/main/java/MarkdownPlanner.java");

    final CompilationUnitTree unit;
    final Trees trees;

    Source() {
        try {
            JavaCompiler compiler = ToolProvider.getSystemJavaCompiler();
            StandardJavaFileManager files = compiler.getStandardFileManager(null, null, StandardCharsets.UTF_8);
            List<String> options = List.of("--release", "17", "-proc:none");
            JavacTask task = (JavacTask) compiler.getTask(
                    null, files, null, options, null, files.getJavaFileObjects(FILE));
            unit = task.parse().iterator().next();
            task.analyze();
            trees = Trees.instance(task);
        } catch (IOException e) {
            throw new UncheckedIOException(e);
        }
    }

    static String text() {
        try {
            return Files.readString(FILE);
        } catch (IOException e) {
            throw new UncheckedIOException(e);
        }
    }
}
