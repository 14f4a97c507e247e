import java.lang.reflect.Constructor;
import java.lang.reflect.Field;
import java.lang.reflect.Method;
import java.lang.reflect.Modifier;
import java.nio.file.Files;
import java.nio.file.Path;
import java.util.ArrayList;
import java.util.HashSet;
import java.util.List;
import java.util.Set;
import java.util.TreeSet;

/** The public face is the document's, and the source keeps to the rules of LANGUAGE.md that a text search can see. */
public final class FaceTest {
    private static final String FACE = "add(int,int)int take(int)int share(int)int divide(int)int strike(int,int)int"
            + " settle()int set(int,int)int append(int)int clear()int fault(int)int read()int carryOut()int why(int)int"
            + " step(int,int)int factor(int,int)int common(int,int,int)int whyNot(int,int)int climbs(int,int,int)int"
            + " climb(int,int,int,int)int climbAt(int,int,int,int)int crown()int prime(int,int)int count(int)int"
            + " mean()double ifDone(int,int,int)int longest(int)int bestStrike()int undo()int save()int restore()int";
    private static final String CONSTANTS =
            "INVALID_ARGUMENT=-1 NOT_POSSIBLE=-2 LIMIT_REACHED=-3 NOT_FOUND=-4 RULE=0 STRIDE=1";
    private static final String[] RULED_OUT = {
        "import ", "try", "catch", "throw ", "finally", "synchronized", "assert", "->", "::", "Exact(", "while (true)",
        "instanceof", "Object", "String", "System.", "Thread", "Random", "record ", "for (;;)"
    };

    private FaceTest() {
    }

    public static void main(String[] args) throws Exception {
        members();
        methods();
        nested();
        source(Path.of(args.length > 0 ? args[0] : "src/main/java/StairKin.java"));
        Check.end("FaceTest");
    }

    private static void members() throws Exception {
        Check.part("members");
        int modifiers = StairKin.class.getModifiers();
        Check.same("public final", Modifier.isPublic(modifiers) && Modifier.isFinal(modifiers) ? 1 : 0, 1);
        List<String> constants = new ArrayList<>();
        for (Field field : StairKin.class.getDeclaredFields()) {
            int kind = field.getModifiers();
            if (Modifier.isPublic(kind)) {
                Check.same(field.getName() + " is a constant", kind, Modifier.PUBLIC | Modifier.STATIC | Modifier.FINAL);
                constants.add(field.getName() + "=" + field.getInt(null));
            } else {
                Check.same(field.getName() + " is private", Modifier.isPrivate(kind) ? 1 : 0, 1);
            }
        }
        Check.same("constants", new TreeSet<>(constants).toString(), new TreeSet<>(List.of(CONSTANTS.split(" "))).toString());
        Constructor<?>[] constructors = StairKin.class.getDeclaredConstructors();
        Check.same("constructors", constructors.length, 1);
        Check.same("constructor", constructors[0].toString(), "public StairKin()");
    }

    private static void methods() {
        Check.part("methods");
        Set<String> face = new TreeSet<>();
        Set<String> names = new HashSet<>();
        for (Method method : StairKin.class.getDeclaredMethods()) {
            if (Modifier.isPublic(method.getModifiers())) {
                face.add(shape(method));
                names.add(method.getName());
                Check.same(method.getName() + " is no static one", Modifier.isStatic(method.getModifiers()) ? 1 : 0, 0);
            }
        }
        Check.same("face", face.toString(), new TreeSet<>(List.of(FACE.split(" "))).toString());
        for (Class<?> type : StairKin.class.getDeclaredClasses()) {
            for (Method method : type.getDeclaredMethods()) {
                Check.same(type.getName() + "." + method.getName(), names.contains(method.getName()) ? 1 : 0, 0);
            }
        }
        for (Method method : StairKin.class.getDeclaredMethods()) {
            if (!Modifier.isPublic(method.getModifiers())) {
                Check.same(method.getName() + " is private", Modifier.isPrivate(method.getModifiers()) ? 1 : 0, 1);
                Check.same(method.getName() + " is no name of the face", names.contains(method.getName()) ? 1 : 0, 0);
            }
        }
    }

    private static String shape(Method method) {
        StringBuilder text = new StringBuilder(method.getName()).append('(');
        for (Class<?> type : method.getParameterTypes()) {
            text.append(text.charAt(text.length() - 1) == '(' ? "" : ",").append(type.getName());
        }
        return text.append(')').append(method.getReturnType().getName()).toString();
    }

    private static void nested() {
        Check.part("classes inside");
        Class<?>[] types = StairKin.class.getDeclaredClasses();
        Check.same("at most some twelve classes", types.length < 12 ? 1 : 0, 1);
        for (Class<?> type : types) {
            int kind = type.getModifiers();
            Check.same(type.getName() + " is static", Modifier.isStatic(kind) ? 1 : 0, 1);
            Check.same(type.getName() + " is hidden", Modifier.isPublic(kind) || Modifier.isProtected(kind) ? 1 : 0, 0);
            for (Field field : type.getDeclaredFields()) {
                Check.same(type.getName() + "." + field.getName() + " is no static one",
                        Modifier.isStatic(field.getModifiers()) ? 1 : 0, 0);
            }
        }
    }

    private static void source(Path path) throws Exception {
        Check.part("source");
        String text = Files.readString(path).replaceAll("(?s)/\\*.*?\\*/", "").replaceAll("//[^\n]*", "");
        for (String word : RULED_OUT) {
            Check.same("'" + word + "' stands in the source", text.contains(word) ? 1 : 0, 0);
        }
        for (int place = 0; place < text.length(); place++) {
            if (text.charAt(place) > 126) {
                Check.same("a sign above 126 at " + place, 1, 0);
            }
        }
    }
}
