import java.io.StringWriter;
import java.lang.reflect.Field;
import java.lang.reflect.Method;
import java.lang.reflect.Modifier;
import java.net.URL;
import java.net.URLClassLoader;
import java.nio.file.Files;
import java.nio.file.Path;
import java.util.ArrayList;
import java.util.List;
import java.util.regex.Matcher;
import java.util.regex.Pattern;
import javax.tools.JavaCompiler;
import javax.tools.StandardJavaFileManager;
import javax.tools.ToolProvider;

/** README.md tells of each call and constant, and its example answers what it says. */
public final class ReadmeTest {
    private static final Pattern EXAMPLE = Pattern.compile("(?s)```java\n(.*?)```");
    /** A call, and behind it what it answers: a number, or the name of a constant. */
    private static final Pattern ANSWER = Pattern.compile("(\\S.*\\));\\s+// ([-\\w.]+)(:.*)?");

    private ReadmeTest() {
    }

    public static void main(String[] args) throws Exception {
        String readme = Files.readString(Path.of("README.md"));
        calls(readme);
        constants(readme);
        example(readme);
        Check.end("ReadmeTest");
    }

    /** A call stands in a table, with its name and as many arguments as it takes. */
    private static void calls(String readme) {
        Check.part("calls");
        for (Method method : StairKin.class.getDeclaredMethods()) {
            if (Modifier.isPublic(method.getModifiers())) {
                Matcher row = Pattern.compile("\\| `" + method.getName() + "\\((.*?)\\)` \\|").matcher(readme);
                boolean found = row.find();
                Check.same(method.getName() + " has its row", found ? 1 : 0, 1);
                String names = found ? row.group(1) : "";
                Check.same(method.getName() + "'s arguments", names.isEmpty() ? 0 : names.split(",").length,
                        method.getParameterCount());
            }
        }
    }

    private static void constants(String readme) throws IllegalAccessException {
        Check.part("constants");
        for (Field field : StairKin.class.getFields()) {
            int value = field.getInt(null);
            String name = "`" + field.getName() + "`";
            String told = value < 0 ? "| " + name + " | " + value + " |" : name + " (" + value + ")";
            Check.same(told + " is told", readme.contains(told) ? 1 : 0, 1);
        }
    }

    private static void example(String readme) throws Exception {
        Check.part("example");
        Matcher example = EXAMPLE.matcher(readme);
        Check.same("there is one", example.find() ? 1 : 0, 1);
        List<String> calls = new ArrayList<>();
        List<String> due = new ArrayList<>();
        String program = program(example.group(1), calls, due);
        Check.same("it tells answers", calls.size() >= 20 ? 1 : 0, 1);
        Path folder = Files.createTempDirectory("readme");
        Path source = Files.writeString(folder.resolve("ReadmeExample.java"), program);
        compareAnswers(calls, answers(folder, source), due);
        for (String name : new String[] {"ReadmeExample.class", "ReadmeExample.java"}) {
            Files.deleteIfExists(folder.resolve(name));
        }
        Files.deleteIfExists(folder);
    }

    /** Each line that tells an answer notes it down, the others stay. */
    private static String program(String example, List<String> calls, List<String> due) throws Exception {
        StringBuilder program = new StringBuilder("public final class ReadmeExample {\n"
                + "public static java.util.List<String> run() {\n"
                + "java.util.List<String> answers = new java.util.ArrayList<>();\n");
        for (String line : example.split("\n")) {
            Matcher told = ANSWER.matcher(line);
            if (told.matches()) {
                boolean named = Character.isLetter(told.group(2).charAt(0));
                calls.add(told.group(1));
                due.add(named ? String.valueOf(StairKin.class.getField(told.group(2)).getInt(null)) : told.group(2));
                program.append("answers.add(String.valueOf(").append(told.group(1)).append("));\n");
            } else {
                program.append(line).append('\n');
            }
        }
        return program.append("return answers;\n}\n}\n").toString();
    }

    private static List<?> answers(Path folder, Path source) throws Exception {
        JavaCompiler compiler = ToolProvider.getSystemJavaCompiler();
        StringWriter messages = new StringWriter();
        List<String> options = List.of("-cp", System.getProperty("java.class.path"), "-d", folder.toString());
        try (StandardJavaFileManager files = compiler.getStandardFileManager(null, null, null)) {
            compiler.getTask(messages, files, null, options, null, files.getJavaFileObjects(source)).call();
        }
        Check.same("what the compiler says", messages.toString(), "");
        if (!Files.exists(folder.resolve("ReadmeExample.class"))) {
            return List.of();
        }
        try (URLClassLoader loader = new URLClassLoader(new URL[] {folder.toUri().toURL()})) {
            return (List<?>) loader.loadClass("ReadmeExample").getMethod("run").invoke(null);
        }
    }

    private static void compareAnswers(List<String> calls, List<?> got, List<String> due) {
        Check.same("how many answers", got.size(), due.size());
        for (int place = 0; place < got.size() && place < due.size(); place++) {
            Check.same(calls.get(place), String.valueOf(got.get(place)), due.get(place));
        }
    }
}
