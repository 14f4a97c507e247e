import com.sun.management.ThreadMXBean;
import java.lang.management.ManagementFactory;
import java.lang.reflect.InvocationTargetException;
import java.lang.reflect.Method;

/** What runs take of the room that they all share, and how arguments of any kind are met in any state. */
public final class RoomTest {
    private static final int[] ARGUMENTS = {
        Integer.MIN_VALUE, Integer.MIN_VALUE + 1, -10000, -4, -1, 0, 1, 2, 3, 5, 11, 12, 13, 60, 9973, 9999, 10000,
        Integer.MAX_VALUE - 1, Integer.MAX_VALUE
    };
    private static final int CALLS = 512;
    private static final int CALLS_OF_FULL_STAIRS = 13;
    /** All calls of a run share it: 600,000 objects of at least 16 bytes, 7.3 million fields and elements of at least 4. */
    private static final long ROOM = 600000L * 16 + 7300000L * 4;

    private RoomTest() {
    }

    public static void main(String[] args) throws Exception {
        wildArguments();
        roomOfAnObject();
        roomOfCalls();
        roomOfManyPrimes();
        Check.end("RoomTest");
    }

    /** States that differ in what they have: nothing, some steps, all steps, ones only, a text of each kind. */
    private static StairKin state(int kind) {
        StairKin x = new StairKin();
        int steps = new int[] {0, 1, 5, 12, 12, 4}[kind];
        for (int step = 0; step < steps; step++) {
            x.add(step, kind == 4 ? 1 : kind == 3 ? 9999 - step : 12 * (step + 1));
        }
        String text = new String[] {"", "4,6", "s0;d0;k0.2", "s0;", "s0;s11", "9999,9998"}[kind];
        for (int place = 0; place < text.length(); place++) {
            x.append(text.charAt(place));
        }
        if (kind % 2 == 1) {
            x.save();
            x.set(0, 2);
            x.set(1, 4);
        }
        return x;
    }

    private static void wildArguments() throws Exception {
        Check.part("arguments of any kind");
        for (int kind = 0; kind < 6; kind++) {
            for (Method method : StairKin.class.getDeclaredMethods()) {
                if (java.lang.reflect.Modifier.isPublic(method.getModifiers())) {
                    callWith(kind, method);
                }
            }
        }
    }

    private static void callWith(int kind, Method method) throws Exception {
        int parameters = method.getParameterCount();
        int many = 1;
        for (int place = 0; place < parameters; place++) {
            many *= ARGUMENTS.length;
        }
        StairKin x = state(kind);
        // Of three or four arguments one combination in seven: seven is no divisor of how many there are.
        for (int turn = 0, calls = 0; turn < many; turn += parameters > 2 ? 7 : 1, calls++) {
            if (calls % 400 == 399) {
                x = state(kind);
            }
            Object[] arguments = new Object[parameters];
            for (int place = 0, rest = turn; place < parameters; place++, rest /= ARGUMENTS.length) {
                arguments[place] = ARGUMENTS[rest % ARGUMENTS.length];
            }
            Check.same("state " + kind + ": " + method.getName() + java.util.Arrays.toString(arguments),
                    outcome(x, method, arguments), "an answer");
        }
    }

    private static String outcome(StairKin x, Method method, Object[] arguments) throws IllegalAccessException {
        try {
            Object answer = method.invoke(x, arguments);
            boolean due = answer instanceof Double || (Integer) answer >= StairKin.NOT_FOUND;
            return due ? "an answer" : "the answer " + answer;
        } catch (InvocationTargetException thrown) {
            return String.valueOf(thrown.getCause());
        }
    }

    /** Answers 0 on a machine that does not count: then nothing is told of the room. */
    private static long bytes() {
        if (ManagementFactory.getThreadMXBean() instanceof ThreadMXBean threads
                && threads.isThreadAllocatedMemorySupported() && threads.isThreadAllocatedMemoryEnabled()) {
            return threads.getThreadAllocatedBytes(Thread.currentThread().getId());
        }
        return 0;
    }

    private static void atMost(String what, long bytes, long most) {
        Check.same(what + ": " + bytes + " bytes of at most " + most, bytes <= most ? 1 : 0, 1);
    }

    private static void roomOfAnObject() {
        Check.part("room of an object");
        bytes();
        StairKin x = new StairKin();
        long before = bytes();
        x = new StairKin();
        atMost("new StairKin()", bytes() - before, ROOM / 10);
        Check.same("without steps", x.count(0), 0);
    }

    /** Calls of each kind, and the dearest ones alone, in runs that are as long as a run may be. */
    private static void roomOfCalls() {
        Check.part("room of calls");
        StairKin x = new StairKin();
        long before = bytes();
        int sum = 0;
        for (int turn = 0; turn < CALLS / 32; turn++) {
            sum += change(x, turn) + look(x, turn % 12);
        }
        atMost(CALLS + " calls, answers adding up to " + sum, bytes() - before, ROOM);
        for (int kind = 0; kind < 6; kind++) {
            before = bytes();
            x = fullStairs();
            for (int call = CALLS_OF_FULL_STAIRS; call < CALLS; call++) {
                dear(x, kind);
            }
            atMost(CALLS + " calls of kind " + kind, bytes() - before, ROOM);
        }
    }

    private static StairKin fullStairs() {
        StairKin x = new StairKin();
        for (int step = 0; step < 12; step++) {
            x.add(step, 2310);
        }
        x.set(1, 4);
        return x;
    }

    private static int dear(StairKin x, int kind) {
        switch (kind) {
            case 0:
                return x.bestStrike();
            case 1:
                return x.ifDone(2, 0, 2);
            case 2:
                return x.climbs(0, 11, 1);
            case 3:
                return x.settle();
            case 4:
                return x.count(3);
            default:
                return x.set(1, 4);
        }
    }

    private static int change(StairKin x, int turn) {
        int sum = x.add(0, 2 + 2 * (turn % 11)) + x.add(0, 12) + x.share(0) + x.divide(0) + x.strike(0, 2) + x.settle();
        sum += x.set(1, 1 + turn % 4) + x.save() + x.restore() + x.undo() + x.append('s') + x.append('0');
        return sum + x.carryOut() + x.append('6') + x.read() + x.take(0);
    }

    private static int look(StairKin x, int step) {
        int sum = x.fault(0) + x.why(0) + x.step(step, 2) + x.factor(step, 0) + x.common(0, step, 1) + x.whyNot(0, step);
        sum += x.climbs(0, step, 1) + x.climb(0, step, 2, 1) + x.climbAt(0, step, 0, 1) + x.crown() + x.prime(2, 1);
        return sum + x.count(8) + (int) x.mean() + x.ifDone(0, 0, 2) + x.longest(2) + x.bestStrike();
    }

    private static void roomOfManyPrimes() {
        Check.part("room of many primes");
        long before = bytes();
        StairKin x = new StairKin();
        int primes = 0;
        for (int number = 9999; number > 2 && primes < CALLS / 2 - 10; number -= 2) {
            if (isPrime(number)) {
                x.add(0, number);
                x.take(0);
                primes++;
            }
        }
        x.save();
        atMost(primes + " primes", bytes() - before, ROOM);
        Check.same("the accounts still know the first one", x.prime(9973, 1), 0);
        x.add(0, 9973);
        Check.same("the accounts still know the first one", x.prime(9973, 1), 1);
        Check.same("the accounts know no more", x.prime(9967, 1), 0);
        Check.same("strike", x.strike(0, 9973), 1);
        Check.same("chips", x.prime(9973, 0), 1);
        Check.same("kinds of chips", x.count(6), 1);
        Check.same("restore()", x.restore(), 0);
        Check.same("chips", x.prime(9973, 0), 0);
    }

    private static boolean isPrime(int number) {
        for (int divisor = 2; divisor * divisor <= number; divisor++) {
            if (number % divisor == 0) {
                return false;
            }
        }
        return true;
    }
}
