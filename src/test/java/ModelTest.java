import java.lang.reflect.Method;
import java.util.ArrayDeque;
import java.util.Deque;
import java.util.HashMap;
import java.util.Map;
import java.util.Random;
import java.util.TreeMap;

/** Long runs of calls, each answer compared with that of the Model. */
public final class ModelTest {
    private static final int RUNS = 900;
    private static final int CALLS = 512;
    /** A call and the kinds of its arguments; it comes as often as it stands here. */
    private static final String[] CALLS_TO_MAKE = {
        "add pn", "add pn", "add pn", "add pn", "add pn", "add pn", "take s", "take s", "share s", "share s", "share s",
        "divide s", "divide s", "divide s", "strike sq", "strike sq", "strike sq", "settle ", "set 2v", "set 2v",
        "text ", "text ", "text ", "text ", "fault 2", "fault 2", "clear ", "read ", "carryOut ", "why 3", "why 3",
        "append c", "step s8", "step s8", "step s8", "factor sf", "common ss2", "whyNot ss", "climbs ss2", "climb ss33",
        "climb ss33", "climbAt ss3f", "climbAt ss3f", "climbAt ss3f", "crown ", "prime q5", "prime q5", "count e",
        "count e", "count e", "mean ", "ifDone 3s4", "ifDone 3s4", "ifDone 3s4", "longest 3", "bestStrike ", "undo ",
        "undo ", "save ", "restore "
    };
    private static final int[] PRIMES = {2, 2, 2, 3, 3, 5, 7, 11, 97, 101, 9973};
    private static final int[] WRONG = {-1, -2, Integer.MIN_VALUE, Integer.MAX_VALUE, 12, 13, 60, 10000, 100000};

    private final Random random;
    private final Map<String, Method> methods = new HashMap<>();
    private final Map<String, Method> modelMethods = new HashMap<>();
    private final Map<String, Integer> kindsOfAnswers = new TreeMap<>();
    private final Deque<Integer> codes = new ArrayDeque<>();
    private StairKin program;
    private Model model;
    private StringBuilder log;
    private int calls;
    private boolean fine;

    private ModelTest(long seed) {
        random = new Random(seed);
        for (Method method : StairKin.class.getDeclaredMethods()) {
            methods.put(method.getName(), method);
        }
        for (Method method : Model.class.getDeclaredMethods()) {
            modelMethods.putIfAbsent(method.getName() + method.getParameterCount(), method);
        }
    }

    public static void main(String[] args) throws Exception {
        ModelTest test = new ModelTest(20261119L);
        for (int run = 0; run < RUNS; run++) {
            test.run(run);
        }
        test.answersMet();
        Check.end("ModelTest");
    }

    private void run(int run) throws Exception {
        Check.part("run " + run);
        program = new StairKin();
        model = new Model();
        log = new StringBuilder();
        codes.clear();
        fine = true;
        int mixed = run % 3 == 0 ? CALLS : CALLS - 330;
        for (calls = 0; calls < mixed && fine;) {
            if (!codes.isEmpty()) {
                compare("append", codes.remove());
            } else {
                makeOne(CALLS_TO_MAKE[random.nextInt(CALLS_TO_MAKE.length)]);
            }
        }
        lookAtAll();
    }

    private void makeOne(String call) throws Exception {
        String name = call.substring(0, call.indexOf(' '));
        String kinds = call.substring(call.indexOf(' ') + 1);
        if (name.equals("text")) {
            writeSomething();
            return;
        }
        Object[] arguments = new Object[kinds.length()];
        for (int place = 0; place < arguments.length; place++) {
            arguments[place] = argument(kinds.charAt(place));
        }
        compare(name, arguments);
    }

    private int argument(char kind) {
        int size = model.size();
        if (random.nextInt(40) == 0) {
            return WRONG[random.nextInt(WRONG.length)];
        }
        switch (kind) {
            case 'p':
                return random.nextInt(size + 1);
            case 's':
                return random.nextInt(Math.max(1, size));
            case 'n':
                return number();
            case 'q':
                return random.nextInt(12) == 0 ? 2 + random.nextInt(9998) : PRIMES[random.nextInt(PRIMES.length)];
            case 'v':
                return random.nextInt(5);
            case 'f':
                return random.nextInt(8);
            case 'c':
                return random.nextInt(4) == 0 ? random.nextInt(140) : "0123456789,;.sdk".charAt(random.nextInt(16));
            case 'e':
                return random.nextInt(14);
            default:
                return random.nextInt(kind - '0' + (random.nextInt(30) == 0 ? 1 : 0));
        }
    }

    private int number() {
        int sort = random.nextInt(12);
        if (sort == 0) {
            return random.nextInt(10002);
        }
        int number = 1;
        for (int turn = random.nextInt(sort < 8 ? 4 : 9); turn > 0; turn--) {
            int more = number * PRIMES[random.nextInt(PRIMES.length)];
            number = more <= 9999 ? more : number;
        }
        return number;
    }

    private void writeSomething() throws Exception {
        compare("clear");
        StringBuilder text = new StringBuilder();
        boolean asNumbers = random.nextInt(3) == 0;
        for (int turn = random.nextInt(5); turn >= 0; turn--) {
            text.append(asNumbers ? String.valueOf(number()) : deed()).append(asNumbers ? ',' : ';');
        }
        if (random.nextInt(12) != 0) {
            text.setLength(text.length() - 1);
        }
        if (random.nextInt(3) == 0 && text.length() > 0) {
            int place = random.nextInt(text.length());
            char sign = "0123456789019,;.sdkx".charAt(random.nextInt(20));
            if (random.nextInt(2) == 0) {
                text.insert(place, sign);
            } else {
                text.setCharAt(place, sign);
            }
        }
        for (int place = 0; place < text.length(); place++) {
            codes.add((int) text.charAt(place));
        }
        if (codes.isEmpty()) {
            compare("fault", 0);
        }
    }

    private String deed() {
        char letter = "sdk".charAt(random.nextInt(3));
        int step = random.nextInt(random.nextInt(4) == 0 ? 14 : Math.max(1, model.size()));
        int prime = random.nextInt(6) == 0 ? random.nextInt(10002) : PRIMES[random.nextInt(PRIMES.length)];
        return letter + String.valueOf(step) + (letter == 'k' ? "." + prime : "");
    }

    /** Looks at everything that the calls left of the run allow. */
    private void lookAtAll() throws Exception {
        for (int what = 0; what < 14 && fine; what++) {
            compare("count", what);
        }
        for (int prime : new int[] {2, 3, 5, 7, 11, 97}) {
            for (int what = 0; what < 5 && fine; what++) {
                compare("prime", prime, what);
            }
        }
        int size = model.size();
        for (int step = 0; step < size && fine; step++) {
            for (int what = 0; what < 8 && fine; what++) {
                compare("step", step, what);
            }
            for (int kind = 0; kind < 3 && fine; kind++) {
                compare("ifDone", kind, step, random.nextInt(4));
                compare("climb", random.nextInt(step + 1), step, kind, random.nextInt(3));
            }
        }
        for (int what = 0; what < 3 && fine; what++) {
            compare("longest", what);
            compare("why", what);
        }
        compare("crown");
        compare("bestStrike");
        compare("mean");
        for (int turn = 0; turn < 5 && fine; turn++) {
            compare("undo");
            compare("count", 5);
            compare("prime", 2, 1);
        }
    }

    private void compare(String name, Object... arguments) throws Exception {
        if (calls >= CALLS || !fine) {
            return;
        }
        calls++;
        Object got;
        try {
            got = methods.get(name).invoke(program, arguments);
        } catch (java.lang.reflect.InvocationTargetException thrown) {
            got = String.valueOf(thrown.getCause());
        }
        Object due = modelMethods.get(name + arguments.length).invoke(model, arguments);
        String call = name + java.util.Arrays.toString(arguments);
        log.append(call).append(' ');
        fine = got.equals(due);
        Check.same(fine ? call : log.toString(), got.toString(), due.toString());
        if (due instanceof Integer) {
            int answer = (Integer) due;
            kindsOfAnswers.merge(name + (answer < 0 ? " answers " + answer : " answers no error"), 1, Integer::sum);
        }
    }

    /** The runs are no test of an answer that they never meet. */
    private void answersMet() {
        Check.part("answers met by the runs");
        String due = "add -1 add -3 take -1 share -1 share -3 divide -1 divide -2 strike -1 strike -2 settle -3 set -1"
                + " append -1 fault -1 fault -4 read -2 read -3 carryOut -2 why -1 why -4 step -1 step -4 factor -1"
                + " factor -4 common -1 whyNot -1 climbs -1 climb -1 climb -4 climbAt -1 climbAt -4 crown -4 prime -1"
                + " count -1 ifDone -1 ifDone -2 ifDone -3 longest -1 longest -4 bestStrike -4 undo -2 restore -2";
        String[] words = due.split(" ");
        for (int place = 0; place + 1 < words.length; place += 2) {
            String key = words[place] + " answers " + words[place + 1];
            Check.same(key + " is met", kindsOfAnswers.getOrDefault(key, 0) >= 5 ? 1 : 0, 1);
            key = words[place] + " answers no error";
            Check.same(key + " is met", kindsOfAnswers.getOrDefault(key, 0) >= 200 ? 1 : 0, 1);
        }
    }
}
