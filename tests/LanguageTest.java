import com.sun.source.tree.CompilationUnitTree;
import com.sun.source.util.JavacTask;
import com.sun.source.util.Trees;
import java.nio.file.Files;
import java.nio.file.Path;
import java.util.List;
import javax.tools.JavaCompiler;
import javax.tools.StandardJavaFileManager;
import javax.tools.ToolProvider;

/**
 * The rules of LANGUAGE.md, looked for in the program as the compiler has understood it. The
 * argument is the source file. Rule 7 is left to the other tests, and rule 13 follows from rule 4.
 */
public final class LanguageTest {
    private LanguageTest() {
    }

    public static void main(String[] args) throws Exception {
        Path source = Path.of(args[0]);
        Check.that("the source is ASCII", Files.readString(source).chars().allMatch(c -> c < 128));
        JavaCompiler compiler = ToolProvider.getSystemJavaCompiler();
        try (StandardJavaFileManager files = compiler.getStandardFileManager(null, null, null)) {
            JavacTask task = (JavacTask) compiler.getTask(null, files, null, List.of("-proc:none"), null,
                    files.getJavaFileObjects(source));
            CompilationUnitTree unit = task.parse().iterator().next();
            task.analyze();
            Rules rules = new Rules(Trees.instance(task), unit);
            rules.scan(unit, null);
            rules.checkWhole();
        }
        Check.end("LanguageTest");
    }
}
