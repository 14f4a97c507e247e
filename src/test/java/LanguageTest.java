import com.sun.source.tree.ClassTree;
import com.sun.source.tree.CompilationUnitTree;
import com.sun.source.tree.Tree;
import com.sun.source.util.JavacTask;
import com.sun.source.util.Trees;
import java.nio.file.Path;
import java.util.ArrayList;
import java.util.List;
import java.util.stream.IntStream;
import javax.lang.model.element.Modifier;
import javax.tools.JavaCompiler;
import javax.tools.StandardJavaFileManager;
import javax.tools.ToolProvider;

/** The program keeps to those rules of ../shared/LANGUAGE.md that can be seen in its tree of classes, methods and statements. */
public final class LanguageTest {
    private LanguageTest() {
    }

    public static void main(String[] args) throws Exception {
        Path program = Path.of(args.length > 0 ? args[0] : "src/main/java/StairKin.java");
        JavaCompiler compiler = ToolProvider.getSystemJavaCompiler();
        try (StandardJavaFileManager files = compiler.getStandardFileManager(null, null, null)) {
            JavacTask task = (JavacTask) compiler.getTask(null, files, null, List.of("--release", "17"), null,
                    files.getJavaFileObjects(program));
            List<CompilationUnitTree> units = new ArrayList<>();
            task.parse().forEach(units::add);
            task.analyze();
            oneClass(units);
            Language language = new Language(Trees.instance(task), units.get(0));
            language.scan(units, null);
            language.compareCalls();
        }
        signs(java.nio.file.Files.readString(program));
        Check.end("LanguageTest");
    }

    private static void oneClass(List<CompilationUnitTree> units) {
        Check.part("rule 1");
        Check.same("files", units.size(), 1);
        CompilationUnitTree unit = units.get(0);
        Check.same("a package line", unit.getPackageName() == null ? 0 : 1, 0);
        Check.same("imports", unit.getImports().size(), 0);
        Check.same("classes beside one another", unit.getTypeDecls().size(), 1);
        ClassTree type = (ClassTree) unit.getTypeDecls().get(0);
        Check.same("the class", type.getSimpleName().toString(), "StairKin");
        Check.same("its modifiers", type.getModifiers().getFlags().toString(), "[public, final]");
        Check.same("its kind", type.getKind().toString(), Tree.Kind.CLASS.toString());
        Check.part("rule 11");
        long inside = type.getMembers().stream().filter(member -> member instanceof ClassTree).count();
        Check.same("classes in the file: " + (inside + 1), inside + 1 <= 12 ? 1 : 0, 1);
        for (Tree member : type.getMembers()) {
            if (member instanceof ClassTree nested) {
                Check.part("rule 1");
                Check.same(nested.getSimpleName() + " is static",
                        nested.getModifiers().getFlags().contains(Modifier.STATIC) ? 1 : 0, 1);
            }
        }
    }

    private static void signs(String source) {
        Check.part("rule 4");
        Check.same("signs above 126", IntStream.range(0, source.length()).filter(at -> source.charAt(at) > 126).count(), 0);
    }
}
