import java.lang.reflect.Constructor;
import java.lang.reflect.Field;
import java.lang.reflect.Method;
import java.lang.reflect.Modifier;
import java.util.Set;
import java.util.TreeSet;
import java.util.regex.Matcher;
import java.util.regex.Pattern;

/** "The public face", line by line: the class has just these members. */
final class FaceCases extends Cases {
    private static final String HEADING = "The public face";
    private static final String CLASS = "public final class StairKin {";
    private static final String CONSTRUCTOR = "public StairKin();";
    private static final String[] CONSTANTS = {
        "public static final int INVALID_ARGUMENT = -1;", "public static final int NOT_POSSIBLE = -2;",
        "public static final int LIMIT_REACHED = -3;", "public static final int NOT_FOUND = -4;",
        "public static final int RULE = 0, STRIDE = 1;"
    };
    private static final String[] CALLS = {
        "public int add(int place, int number);", "public int take(int step);", "public int share(int step);",
        "public int divide(int step);", "public int strike(int step, int prime);", "public int settle();",
        "public int set(int what, int value);", "public int append(int code);", "public int clear();",
        "public int fault(int way);", "public int read();", "public int carryOut();", "public int why(int what);",
        "public int step(int step, int what);", "public int factor(int step, int place);",
        "public int common(int one, int other, int way);", "public int whyNot(int from, int to);",
        "public int climbs(int from, int to, int way);", "public int climb(int from, int to, int kind, int what);",
        "public int climbAt(int from, int to, int kind, int place);", "public int crown();",
        "public int prime(int prime, int what);", "public int count(int what);", "public double mean();",
        "public int ifDone(int kind, int step, int what);", "public int longest(int what);", "public int bestStrike();",
        "public int undo();", "public int save();", "public int restore();"
    };
    private static final Pattern CONSTANT = Pattern.compile("(\\w+) = (-?\\d+)");
    private static final Pattern CALL = Pattern.compile("public (\\w+) (\\w+)\\((.*)\\);");

    private FaceCases() {
    }

    static void all() {
        theClass();
        Set<String> names = new TreeSet<>();
        for (String line : CONSTANTS) {
            constants(line, names);
        }
        constructor();
        for (String line : CALLS) {
            call(line, names);
        }
        noOther(names);
    }

    private static void theClass() {
        Sentences.begin(HEADING, CLASS);
        Check.same("its modifiers", StairKin.class.getModifiers(), Modifier.PUBLIC | Modifier.FINAL);
        Check.same("its package", StairKin.class.getPackageName(), "");
        Check.same("the class above it", StairKin.class.getSuperclass().getName(), "java.lang.Object");
        Check.same("interfaces", StairKin.class.getInterfaces().length, 0);
    }

    private static void constants(String line, Set<String> names) {
        Sentences.begin(HEADING, line);
        Matcher each = CONSTANT.matcher(line);
        while (each.find()) {
            String name = each.group(1);
            names.add(name);
            String got = "none";
            try {
                Field field = StairKin.class.getField(name);
                got = Modifier.toString(field.getModifiers()) + " " + field.getType() + " " + field.getInt(null);
            } catch (ReflectiveOperationException | IllegalArgumentException missing) {
                got = missing.toString();
            }
            Check.same(name, got, "public static final int " + each.group(2));
        }
    }

    private static void constructor() {
        Sentences.begin(HEADING, CONSTRUCTOR);
        Constructor<?>[] constructors = StairKin.class.getConstructors();
        Check.same("constructors", constructors.length, 1);
        Check.same("constructor", constructors[0].toString(), CONSTRUCTOR.replace(";", ""));
    }

    private static void call(String line, Set<String> names) {
        Sentences.begin(HEADING, line);
        Matcher parts = CALL.matcher(line);
        Check.same("the line is a call's", parts.matches() ? 1 : 0, 1);
        String name = parts.group(2);
        names.add(name);
        Class<?>[] types = new Class<?>[parts.group(3).isEmpty() ? 0 : parts.group(3).split(",").length];
        java.util.Arrays.fill(types, int.class);
        String got;
        try {
            Method method = StairKin.class.getDeclaredMethod(name, types);
            got = Modifier.toString(method.getModifiers()) + " " + method.getReturnType() + " "
                    + method.getExceptionTypes().length;
        } catch (NoSuchMethodException missing) {
            got = missing.toString();
        }
        Check.same(name, got, "public " + parts.group(1) + " 0");
    }

    /** The members that can be seen from outside are the face's, each once. */
    private static void noOther(Set<String> names) {
        Sentences.begin(HEADING, CLASS);
        Set<String> seen = new TreeSet<>();
        int members = 0;
        for (Field field : StairKin.class.getDeclaredFields()) {
            if (isShown(field.getModifiers())) {
                seen.add(field.getName());
                members++;
            }
        }
        for (Method method : StairKin.class.getDeclaredMethods()) {
            if (isShown(method.getModifiers())) {
                seen.add(method.getName());
                members++;
            }
        }
        Check.same("members", seen.toString(), names.toString());
        Check.same("how many members", members, names.size());
        for (Class<?> type : StairKin.class.getDeclaredClasses()) {
            Check.same(type.getName() + " is shown", isShown(type.getModifiers()) ? 1 : 0, 0);
        }
    }

    private static boolean isShown(int modifiers) {
        return Modifier.isPublic(modifiers) || Modifier.isProtected(modifiers);
    }
}
