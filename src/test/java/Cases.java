import java.util.List;

/** What the tests share: stairs to begin with, and calls that must be refused, or must change nothing. */
abstract class Cases {
    static final int INVALID = StairKin.INVALID_ARGUMENT;
    static final int NOT_POSSIBLE = StairKin.NOT_POSSIBLE;
    static final int LIMIT = StairKin.LIMIT_REACHED;
    static final int NOT_FOUND = StairKin.NOT_FOUND;
    static final int LEAST = Integer.MIN_VALUE;
    static final int MOST = Integer.MAX_VALUE;

    interface Made {
        StairKin make();
    }

    interface Call {
        int on(StairKin x);
    }

    interface CallWith {
        int on(StairKin x, int value);
    }

    static StairKin stairs(int... numbers) {
        StairKin x = new StairKin();
        for (int number : numbers) {
            x.add(x.count(0), number);
        }
        return x;
    }

    static StairKin alike(int steps, int number) {
        int[] numbers = new int[steps];
        java.util.Arrays.fill(numbers, number);
        return stairs(numbers);
    }

    static void write(StairKin x, String text) {
        x.clear();
        for (int place = 0; place < text.length(); place++) {
            x.append(text.charAt(place));
        }
    }

    static int deeds(StairKin x, String text) {
        write(x, text);
        return x.carryOut();
    }

    static int numbersRead(StairKin x, String text) {
        write(x, text);
        return x.read();
    }

    static void numbers(String call, StairKin x, int... due) {
        Check.same(call + ": steps", x.count(0), due.length);
        for (int step = 0; step < due.length; step++) {
            Check.same(call + ": step(" + step + ", 0)", x.step(step, 0), due[step]);
        }
    }

    /**
     * Six steps 6, 3, 35, 1, 9973, 14, and everything else unlike that of a new object: settings, chips, a broken step,
     * a snapshot, four different states in the history, a deed that stopped, a text on the pad.
     */
    static StairKin rich(String text) {
        StairKin x = stairs(24, 18, 35, 1, 7, 9973, 14);
        deeds(x, "k4.7;k0.2;s11");
        x.save();
        x.set(0, 1);
        x.set(1, 3);
        x.strike(0, 2);
        x.divide(0);
        write(x, text);
        return x;
    }

    static StairKin rich() {
        return rich("4,6");
    }

    /** The same with six steps more: 12. */
    static StairKin full(String text) {
        StairKin x = rich("");
        for (int number : new int[] {10, 15, 9999, 16, 625, 8}) {
            x.add(x.count(0), number);
        }
        write(x, text);
        return x;
    }

    static StairKin full() {
        return full("4,6");
    }

    /** The call returns the error, and the object is as one of the same kind that was not called. */
    static void refused(String call, int error, Made made, Call with) {
        Check.same(call, with.on(made.make()), error);
        kept(call, made, with);
    }

    /** Whatever the call returns, the object is as one of the same kind that was not called. */
    static void kept(String call, Made made, Call with) {
        asBehind(call, made, with, x -> 0);
    }

    /** Behind the one call the object is as one of the same kind is behind the other call. */
    static void asBehind(String call, Made made, Call one, Call other) {
        alike(call, Portrait.ofState(behind(made, one)), Portrait.ofState(behind(made, other)));
        alike(call, Portrait.ofPad(behind(made, one)), Portrait.ofPad(behind(made, other)));
    }

    private static StairKin behind(Made made, Call with) {
        StairKin x = made.make();
        with.on(x);
        return x;
    }

    private static void alike(String call, List<String> got, List<String> due) {
        for (int place = 0; place < due.size(); place++) {
            if (!got.get(place).equals(due.get(place))) {
                Check.same(call + ", and then", got.get(place), due.get(place));
                return;
            }
        }
        Check.same(call + ": answers behind it", got.size(), due.size());
    }

    /** The least and the greatest value are taken; those on the other side, next to them and far off, are refused. */
    static void range(String call, int least, int greatest, Made made, CallWith with) {
        for (int value : new int[] {least, greatest}) {
            Check.same(call + " takes " + value, with.on(made.make(), value) == INVALID ? 0 : 1, 1);
        }
        for (int value : new int[] {least - 1, greatest + 1, LEAST, MOST}) {
            refused(call + " with " + value, INVALID, made, x -> with.on(x, value));
        }
    }

    /** The steps of a climb, and none behind them. */
    static void path(String call, StairKin x, int from, int to, int kind, int... due) {
        Check.same(call + ": length", x.climb(from, to, kind, 0), due.length);
        for (int place = 0; place < due.length; place++) {
            Check.same(call + ": climbAt(.., " + kind + ", " + place + ")", x.climbAt(from, to, kind, place), due[place]);
        }
        Check.same(call + ": behind the end", x.climbAt(from, to, kind, due.length), NOT_FOUND);
    }
}
