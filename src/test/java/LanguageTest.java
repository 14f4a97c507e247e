import com.sun.source.tree.CompilationUnitTree;
import com.sun.source.util.JavacTask;
import com.sun.source.util.Trees;
import java.nio.file.Files;
import java.nio.file.Path;
import java.util.ArrayList;
import java.util.List;
import java.util.stream.IntStream;
import javax.tools.JavaCompiler;
import javax.tools.StandardJavaFileManager;
import javax.tools.ToolProvider;

/** The program keeps to those rules of ../shared/LANGUAGE.md that can be seen in its tree of classes, methods and statements. */
public final class LanguageTest {
    private LanguageTest() {
    }

    public static void main(String[] args) throws Exception {
        Path program = Path.of(args.length > 0 ? args[0] : "src/main/java/StairKin.java");
        JavaCompiler compiler = ToolProvider.getSystemJavaCompiler();
        try (StandardJavaFileManager files = compiler.getStandardFileManager(null, null, null)) {
            JavacTask task = (JavacTask) compiler.getTask(null, files, null, List.of("--release", "17"), null,
                    files.getJavaFileObjects(program));
            List<CompilationUnitTree> units = new ArrayList<>();
            task.parse().forEach(units::add);
            task.analyze();
            Language language = new Language(Trees.instance(task), units.get(0));
            language.scan(units, null);
            // What is stricter than the rules is asked only of a program that looks into its rows by Rows, as ours does.
            if (language.hasClass("Rows")) {
                Guards guards = new Guards(Trees.instance(task), units.get(0));
                guards.scan(units, null);
                guards.compareCalls();
            }
        }
        signs(Files.readString(program));
        Check.end("LanguageTest");
    }

    private static void signs(String source) {
        Check.part("rule 4");
        String code = source.replaceAll("(?s)/\\*.*?\\*/", "").replaceAll("//[^\n]*", "");
        Check.same("signs above 127", IntStream.range(0, code.length()).filter(at -> code.charAt(at) > 127).count(), 0);
    }
}
