import java.nio.file.Files;
import java.nio.file.Path;
import java.util.Arrays;

/** "Changes and errors" and promises 26 to 31, sentence by sentence: what would be, history, snapshot. */
final class HistoryCases extends Cases {
    private HistoryCases() {
    }

    static void all(Path program) throws java.io.IOException {
        changes();
        noChanges();
        recorded();
        fourStates();
        theOldestIsDropped();
        invalidRatherThanNotPossible();
        notPossibleRatherThanLimit();
        limitRatherThanNotFound();
        noSuchStep();
        errorsChangeNothing();
        constants();
        interfaceSays(program);
        ifDoneKinds();
        ifDoneAnswers();
        ifDoneErrors();
        longest();
        bestStrike();
        nothingIsChanged();
        undo();
        undoOfEach();
        undoOfAccounts();
        save();
        restore();
    }

    /** The call adds a state to a history that has room for it. */
    private static void isChange(String call, Made made, Call with) {
        StairKin x = made.make();
        while (x.count(13) > 1) {
            x.undo();
        }
        int before = x.count(13);
        Check.same(call + " returns no error", with.on(x) >= 0 ? 1 : 0, 1);
        Check.same(call + ": states", x.count(13), before + 1);
    }

    private static void changes() {
        Sentences.begin("Changes and errors", "The changes are the calls of add, take, share, divide, strike, set");
        Made two = () -> stairs(6, 6);
        isChange("add", two, x -> x.add(0, 5));
        isChange("take", two, x -> x.take(0));
        isChange("share", () -> shared(6, 6), x -> x.share(0));
        isChange("divide", () -> shared(6, 6), x -> x.divide(0));
        isChange("strike", two, x -> x.strike(0, 2));
        isChange("set", two, x -> x.set(0, 2));
        isChange("set", two, x -> x.set(1, 1));
        Sentences.begin("Changes and errors", "read, carryOut, settle and restore");
        isChange("read", two, x -> numbersRead(x, "5"));
        isChange("carryOut", two, x -> deeds(x, "k0.2"));
        isChange("settle", two, x -> x.settle());
        isChange("restore", two, x -> x.save() + x.restore());
        Sentences.begin("Changes and errors", "that return no error.");
        Call[] refused = {
            x -> x.add(3, 5), x -> x.take(2), x -> x.share(0), x -> x.divide(0), x -> x.strike(0, 3), x -> x.set(0, 3),
            x -> x.read(), x -> x.carryOut(), x -> x.settle(), x -> x.restore()
        };
        for (int call = 0; call < refused.length; call++) {
            StairKin x = stairs(9998, 9999);
            Check.same("call " + call + " is refused", refused[call].on(x) < 0 ? 1 : 0, 1);
            Check.same("states behind call " + call + ", which was refused", x.count(13), 2);
            Check.same("undo() behind it", x.undo(), 1);
            numbers("undo() behind it", x, 9998);
        }
    }

    /** Both steps come by one change, so that one state is left when others are undone. */
    private static StairKin shared(int low, int high) {
        StairKin x = new StairKin();
        numbersRead(x, low + "," + high);
        return x;
    }

    private static void noChanges() {
        Sentences.begin("Changes and errors", "The changes are");
        Call[] calls = {
            x -> x.append('1'), x -> x.clear(), x -> x.fault(0), x -> x.why(0), x -> x.step(0, 0), x -> x.factor(0, 0),
            x -> x.common(0, 0, 0), x -> x.whyNot(0, 0), x -> x.climbs(0, 0, 0), x -> x.climb(0, 0, 0, 0),
            x -> x.climbAt(0, 0, 0, 0), x -> x.crown(), x -> x.prime(2, 0), x -> x.count(0), x -> (int) x.mean(),
            x -> x.ifDone(2, 0, 0), x -> x.longest(0), x -> x.bestStrike(), x -> x.save()
        };
        for (int call = 0; call < calls.length; call++) {
            StairKin x = stairs(6, 5);
            calls[call].on(x);
            Check.same("states behind call " + call + ", which is no change", x.count(13), 2);
            Check.same("undo() behind it", x.undo(), 1);
            numbers("undo() behind it", x, 6);
        }
        StairKin x = stairs(6, 5);
        x.undo();
        Check.same("undo() is no change", x.count(13), 1);
    }

    private static void recorded() {
        Sentences.begin("Changes and errors", "each change records everything before it but the pad and the snapshot");
        StairKin x = stairs(12, 18);
        x.strike(0, 2);
        x.save();
        write(x, "5,");
        x.set(1, 4);
        x.append('7');
        x.take(0);
        x.undo();
        Check.same("the pad is not brought back", x.count(12), 3);
        Check.same("chips", x.prime(2, 0), 1);
        Check.same("stride", x.count(11), 4);
        numbers("undo()", x, 6, 18);
        x.undo();
        Check.same("the pad is not brought back", x.count(12), 3);
        Check.same("read()", x.read(), 4);
        numbers("read()", x, 6, 18, 5, 7);
        x.undo();
        Check.same("the pad is not brought back", x.count(12), 0);
        x.undo();
        x.undo();
        numbers("undo()", x, 12);
        Check.same("the snapshot is not undone", x.restore(), 2);
        numbers("restore()", x, 6, 18);
        Sentences.begin("Changes and errors", "(also if nothing is different then)");
        Made three = () -> shared(3, 6);
        isChange("settle() of what is settled", three, y -> y.settle());
        isChange("settle() without steps", () -> new StairKin(), y -> y.settle());
        isChange("set(0, ..) as it is", three, y -> y.set(0, 0));
        isChange("set(1, ..) as it is", three, y -> y.set(1, 2));
        isChange("share of what is shared", three, y -> y.share(0));
        isChange("divide by 1", () -> shared(1, 6), y -> y.divide(0));
        isChange("carryOut of none", three, y -> deeds(y, "s9"));
        isChange("restore of the same", three, y -> y.save() + y.restore());
        isChange("restore of no steps to none", () -> new StairKin(), y -> y.save() + y.restore());
        x = shared(3, 6);
        x.settle();
        x.set(0, 0);
        Check.same("undo() of what made no difference", x.undo(), 2);
        Check.same("undo() of what made no difference", x.undo(), 1);
        numbers("undo() of what made no difference", x, 3, 6);
    }

    private static void fourStates() {
        Sentences.begin("Changes and errors", "A history of at most 4 states is kept");
        StairKin x = new StairKin();
        for (int turn = 1; turn <= 12; turn++) {
            x.add(0, turn);
            Check.same("states behind " + turn + " changes", x.count(13), Math.min(turn, 4));
        }
        for (int held = 3; held >= 0; held--) {
            Check.same("undo()", x.undo(), held);
            Check.same("states", x.count(13), held);
            Check.same("steps", x.count(0), 8 + held);
        }
        refused("undo() of none", NOT_POSSIBLE, () -> {
            StairKin y = rich();
            for (int turn = 0; turn < 4; turn++) {
                y.undo();
            }
            return y;
        }, y -> y.undo());
    }

    private static void theOldestIsDropped() {
        Sentences.begin("Changes and errors", "and if there are 5 states then, the oldest one is dropped.");
        StairKin x = stairs(1, 2, 3, 4, 5);
        for (int steps = 4; steps >= 1; steps--) {
            x.undo();
            Check.same("steps", x.count(0), steps);
        }
        Check.same("the first state is dropped", x.undo(), NOT_POSSIBLE);
        numbers("the second state", x, 1);
        // Changes and undos in turn, so that the places of the states are used many times, and in any order.
        x = new StairKin();
        java.util.ArrayList<Integer> due = new java.util.ArrayList<>();
        int stride = 2;
        for (int turn = 0; turn < 120; turn++) {
            if (turn % 7 < 4 || due.isEmpty()) {
                due.add(stride);
                stride = 1 + (turn * 5 + turn / 3) % 4;
                x.set(1, stride);
                if (due.size() > 4) {
                    due.remove(0);
                }
            } else {
                stride = due.remove(due.size() - 1);
                Check.same("undo() at turn " + turn, x.undo(), due.size());
            }
            Check.same("stride at turn " + turn, x.count(11), stride);
            Check.same("states at turn " + turn, x.count(13), due.size());
        }
    }

    private static void invalidRatherThanNotPossible() {
        Sentences.begin("Changes and errors", "INVALID_ARGUMENT is returned rather than NOT_POSSIBLE");
        refused("strike of no step by what would not divide it", INVALID, () -> rich(), x -> x.strike(6, 5));
        refused("strike by 4, which does not divide it", INVALID, () -> rich(), x -> x.strike(0, 4));
        refused("strike of 1 by 9999", INVALID, () -> rich(), x -> x.strike(3, 9999));
        refused("ifDone of no multiple", INVALID, () -> rich(), x -> x.ifDone(1, 0, 4));
        refused("ifDone of no multiple", INVALID, () -> rich(), x -> x.ifDone(1, 0, -1));
        refused("ifDone of a strike of 1", INVALID, () -> rich(), x -> x.ifDone(2, 3, 4));
        Sentences.begin("Changes and errors", "If several errors apply to a call, INVALID_ARGUMENT is returned");
        refused("add to twelve, no such place", INVALID, () -> full(), x -> x.add(13, 5));
        refused("add to twelve, no such number", INVALID, () -> full(), x -> x.add(12, 0));
        refused("append to 60", INVALID, () -> rich("1".repeat(60)), x -> x.append(127));
        refused("ifDone above the limit", INVALID, () -> rich(), x -> x.ifDone(0, 4, 4));
        refused("step of 1", INVALID, () -> rich(), x -> x.step(3, 8));
        refused("factor of 1", INVALID, () -> rich(), x -> x.factor(3, -1));
        refused("climb where there is none", INVALID, () -> stairs(2, 3), x -> x.climb(0, 1, 3, 0));
        refused("climb where there is none", INVALID, () -> stairs(2, 3), x -> x.climb(0, 1, 0, 3));
        refused("climbAt where there is none", INVALID, () -> stairs(2, 3), x -> x.climbAt(0, 1, 0, -1));
        refused("climbAt where there is none", INVALID, () -> stairs(2, 3), x -> x.climbAt(0, 1, -1, 0));
        refused("longest without steps", INVALID, () -> new StairKin(), x -> x.longest(3));
        refused("why of none", INVALID, () -> new StairKin(), x -> x.why(3));
        refused("fault where there is none", INVALID, () -> rich("4"), x -> x.fault(2));
    }

    private static void notPossibleRatherThanLimit() {
        Sentences.begin("Changes and errors", "NOT_POSSIBLE rather than LIMIT_REACHED");
        refused("a fault behind too many numbers", NOT_POSSIBLE, () -> rich("1,1,1,1,1,1,1,x"), x -> x.read());
        refused("too many numbers, and one more to come", NOT_POSSIBLE, () -> rich("1,1,1,1,1,1,1,"), x -> x.read());
        refused("a fault, and twelve steps", NOT_POSSIBLE, () -> full("x"), x -> x.read());
        refused("the empty pad, and twelve steps", NOT_POSSIBLE, () -> full(""), x -> x.read());
        refused("the full pad, and twelve steps", NOT_POSSIBLE, () -> full("1,".repeat(30)), x -> x.read());
    }

    private static void limitRatherThanNotFound() {
        Sentences.begin("Changes and errors", "and LIMIT_REACHED rather than NOT_FOUND.");
        // No call knows both; a limit is told as such where nothing is found otherwise.
        refused("share above the limit", LIMIT, () -> stairs(9998, 9999), x -> x.share(0));
        refused("ifDone above the limit", LIMIT, () -> stairs(9998, 9999), x -> x.ifDone(0, 0, 2));
    }

    private static void noSuchStep() {
        Sentences.begin("Changes and errors", "If there is no step of a certain number, this is INVALID_ARGUMENT.");
        CallWith[] calls = {
            (x, step) -> x.take(step), (x, step) -> x.share(step), (x, step) -> x.divide(step), (x, step) -> x.strike(step, 2),
            (x, step) -> x.step(step, 0), (x, step) -> x.factor(step, 0), (x, step) -> x.common(step, 0, 0),
            (x, step) -> x.common(0, step, 1), (x, step) -> x.whyNot(step, 0), (x, step) -> x.whyNot(0, step),
            (x, step) -> x.climbs(step, 5, 0), (x, step) -> x.climbs(0, step, 1), (x, step) -> x.climb(step, 5, 0, 0),
            (x, step) -> x.climb(0, step, 0, 0), (x, step) -> x.climbAt(step, 5, 0, 0), (x, step) -> x.climbAt(0, step, 0, 0),
            (x, step) -> x.ifDone(0, step, 0), (x, step) -> x.ifDone(1, step, 0), (x, step) -> x.ifDone(2, step, 0)
        };
        for (int call = 0; call < calls.length; call++) {
            for (int step : new int[] {-1, 6, 12, LEAST, MOST}) {
                Check.same("call " + call + " with step " + step + " of six", calls[call].on(rich(), step), INVALID);
            }
            for (int step : new int[] {-1, 12, 13, LEAST, MOST}) {
                Check.same("call " + call + " with step " + step + " of twelve", calls[call].on(full(), step), INVALID);
            }
            for (int step : new int[] {-1, 0, 1, 12, LEAST, MOST}) {
                Check.same("call " + call + " with step " + step + " of none", calls[call].on(new StairKin(), step), INVALID);
            }
        }
    }

    private static void errorsChangeNothing() {
        Sentences.begin("Changes and errors", "A call that returns an error changes nothing (the pad stays, too).");
        Call[] calls = {
            x -> x.add(13, 1), x -> x.add(0, 0), x -> x.add(0, 5), x -> x.take(12), x -> x.share(11), x -> x.share(4),
            x -> x.divide(11), x -> x.divide(0), x -> x.strike(0, 4), x -> x.strike(0, 5), x -> x.settle(), x -> x.set(2, 1),
            x -> x.set(0, 3), x -> x.append(32), x -> x.append('1'), x -> x.fault(2), x -> x.read(), x -> x.carryOut(),
            x -> x.why(3), x -> x.step(12, 0), x -> x.step(3, 6), x -> x.factor(3, 0), x -> x.common(0, 12, 1),
            x -> x.whyNot(0, 12), x -> x.climbs(0, 12, 1), x -> x.climb(0, 12, 2, 1), x -> x.climbAt(0, 3, 0, 12),
            x -> x.prime(4, 0), x -> x.count(14), x -> x.ifDone(0, 4, 0), x -> x.ifDone(1, 0, 0), x -> x.ifDone(2, 3, 0),
            x -> x.longest(3)
        };
        for (int call = 0; call < calls.length; call++) {
            Call with = calls[call];
            for (String text : new String[] {"s0;".repeat(20), "1,".repeat(30)}) {
                Check.same("call " + call + " is refused", with.on(full(text)) < 0 ? 1 : 0, 1);
                kept("call " + call, () -> full(text), with);
            }
        }
        refused("restore() of none", NOT_POSSIBLE, () -> stairs(6, 5), x -> x.restore());
        refused("undo() of none", NOT_POSSIBLE, () -> new StairKin(), x -> x.undo());
        refused("crown() of none", NOT_FOUND, () -> new StairKin(), x -> x.crown());
        refused("bestStrike() of none", NOT_FOUND, () -> stairs(1), x -> x.bestStrike());
    }

    private static void constants() {
        Sentences.begin("Changes and errors", "An argument is out of its range, or there is no such step.");
        Check.same("INVALID_ARGUMENT", StairKin.INVALID_ARGUMENT, -1);
        Check.same("out of its range", rich().count(14), -1);
        Check.same("no such step", rich().step(6, 0), -1);
        Sentences.begin("Changes and errors", "`NOT_POSSIBLE = -2`: The call is not possible in the present state.");
        Check.same("NOT_POSSIBLE", StairKin.NOT_POSSIBLE, -2);
        Check.same("undo() of none", new StairKin().undo(), -2);
        Sentences.begin("Changes and errors", "`LIMIT_REACHED = -3`: A fixed limit has been reached.");
        Check.same("LIMIT_REACHED", StairKin.LIMIT_REACHED, -3);
        Check.same("add to twelve", full().add(0, 5), -3);
        Sentences.begin("Changes and errors", "`NOT_FOUND = -4`: There is no such value.");
        Check.same("NOT_FOUND", StairKin.NOT_FOUND, -4);
        Check.same("crown() of none", new StairKin().crown(), -4);
        Sentences.begin("Changes and errors", "`RULE = 0, STRIDE = 1`: Numbers of the settings.");
        Check.same("RULE", StairKin.RULE, 0);
        Check.same("STRIDE", StairKin.STRIDE, 1);
        StairKin x = new StairKin();
        x.set(StairKin.RULE, 1);
        x.set(StairKin.STRIDE, 3);
        Check.same("RULE", x.count(10), 1);
        Check.same("STRIDE", x.count(11), 3);
    }

    /**
     * The calls are there; and where the source has the interface's words, they stand ahead of their calls, and behind the
     * part before.
     */
    private static void interfaceSays(Path program) throws java.io.IOException {
        String source = Files.readString(program);
        boolean told = source.contains("// ----");
        String[][] parts = {
            {"`add`, `take` the interface says: ", "---- steps", "add", "take"},
            {"`set` the interface says: ", "---- deeds", "share", "divide", "strike", "settle", "set"},
            {"`why` the interface says: ", "---- texts", "append", "clear", "fault", "read", "carryOut", "why"},
            {"`mean` the interface says: ", "---- looks; nothing is changed", "step", "factor", "common", "whyNot", "climbs",
                "climb", "climbAt", "crown", "prime", "count", "mean"},
            {"`bestStrike` the interface says: ", "---- what would be; nothing is changed", "ifDone", "longest", "bestStrike"},
            {"`restore` the interface says: ", "---- history, snapshot", "undo", "save", "restore"}
        };
        int before = 0;
        for (String[] part : parts) {
            Sentences.begin("Changes and errors", part[0] + part[1] + ".");
            int place = source.indexOf("// " + part[1] + "\n");
            Check.same("it stands in the source, behind the part before", !told || place > before ? 1 : 0, 1);
            for (int call = 2; call < part.length; call++) {
                String name = part[call];
                boolean shown = Arrays.stream(StairKin.class.getMethods()).anyMatch(method -> method.getName().equals(name));
                Check.same(name + "() is there", shown ? 1 : 0, 1);
                int next = source.indexOf(" " + name + "(", source.indexOf("public ", Math.max(place, 0)));
                Check.same(name + "() stands behind it", !told || next > place ? 1 : 0, 1);
                place = Math.max(place, next);
            }
            before = place;
        }
    }

    private static void wouldBe(String call, StairKin x, int kind, int step, int... due) {
        for (int what = 0; what < due.length; what++) {
            Check.same(call + ": ifDone(" + kind + ", " + step + ", " + what + ")", x.ifDone(kind, step, what), due[what]);
        }
    }

    private static void ifDoneKinds() {
        Sentences.begin("Promise 26", "Tells what a deed would bring.");
        StairKin y = stairs(4, 6);
        Check.same("a share", y.ifDone(0, 0, 0), 1);
        numbers("told, and not done", y, 4, 6);
        Sentences.begin("Promise 26", "`kind`: 0: to share at the step");
        range("kind", 0, 2, () -> stairs(6, 12), (x, value) -> x.ifDone(value, 0, 0));
        wouldBe("4 and 9 share nothing", stairs(4, 9, 2), 0, 0, 1, 2, 2, 3);
        wouldBe("4 and 6", stairs(3, 4, 6), 0, 1, 2, 1, 2, 3);
        Sentences.begin("Promise 26", "1: to divide at the step");
        wouldBe("12 by 4", stairs(4, 12, 2), 1, 0, 1, 2, 2, 3);
        wouldBe("6 by 6, which breaks", stairs(6, 6, 3), 1, 0, 1, 1, 2, 2);
        Sentences.begin("Promise 26", "2: to strike the step by its greatest prime factor");
        wouldBe("30 by 5", stairs(2, 30, 5), 2, 1, 1, 2, 2, 3);
        wouldBe("18 by 3, once", stairs(18, 3, 2), 2, 0, 2, 1, 2, 3);
        wouldBe("9973, which breaks", stairs(2, 9973, 4), 2, 1, 1, 1, 2, 2);
        Sentences.begin("Promise 26", "`step`: as for the deed");
        range("step to share at", 0, 4, () -> rich(), (x, value) -> x.ifDone(0, value, 3));
        range("step to divide at", 0, 4, () -> rich(), (x, value) -> x.ifDone(1, value, 3));
        range("step to strike", 0, 5, () -> rich(), (x, value) -> x.ifDone(2, value, 3));
        range("step to share at, of twelve", 0, 10, () -> full(), (x, value) -> x.ifDone(0, value, 3));
        range("step to strike, of twelve", 0, 11, () -> full(), (x, value) -> x.ifDone(2, value, 3));
        range("step to strike, of one", 0, 0, () -> stairs(2), (x, value) -> x.ifDone(2, value, 3));
    }

    private static void ifDoneAnswers() {
        StairKin x = stairs(6, 4, 9, 25, 10);
        Sentences.begin("Promise 26", "`what`: 0: how many pairs of steps would be kin");
        range("what", 0, 3, () -> rich(), (y, value) -> y.ifDone(2, 0, value));
        Check.same("share at 0", x.ifDone(0, 0, 0), 5);
        Check.same("strike 4", x.ifDone(2, 4, 0), 4);
        Check.same("of twelve", alike(12, 2).ifDone(2, 0, 0), 55);
        Sentences.begin("Promise 26", "1: how many families there would be");
        Check.same("share at 0", x.ifDone(0, 0, 1), 1);
        Check.same("strike 4", x.ifDone(2, 4, 1), 2);
        Check.same("of twelve", alike(12, 2).ifDone(2, 11, 1), 1);
        Sentences.begin("Promise 26", "2: how many steps the longest climb from any step to any step would have");
        Check.same("share at 0", x.ifDone(0, 0, 2), 3);
        Check.same("strike 4", x.ifDone(2, 4, 2), 2);
        Check.same("of twelve", alike(12, 2).ifDone(2, 11, 2), 11);
        Check.same("no kin", stairs(2, 3).ifDone(0, 0, 2), 1);
        Check.same("no step", stairs(2).ifDone(2, 0, 2), 0);
        x = stairs(6, 4, 9, 25, 25, 6);
        Check.same("share at 0, stride 2", x.ifDone(0, 0, 2), 3);
        x.set(StairKin.STRIDE, 4);
        Check.same("share at 0, stride 4", x.ifDone(0, 0, 2), 4);
        Sentences.begin("Promise 26", "3: how many steps there would be");
        Check.same("share at 0", x.ifDone(0, 0, 3), 6);
        Check.same("one breaks", alike(12, 2).ifDone(2, 11, 3), 11);
        Check.same("one breaks", alike(12, 9999).ifDone(1, 10, 3), 11);
        Check.same("the last one breaks", stairs(2).ifDone(2, 0, 3), 0);
        Check.same("1 by 1", stairs(1, 1).ifDone(1, 0, 3), 1);
        Sentences.begin("Promise 26", "Returns the number");
        wouldBe("strike of the only one", stairs(2), 2, 0, 0, 0, 0, 0);
        wouldBe("share of ones", stairs(1, 1), 0, 0, 0, 2, 1, 2);
    }

    private static void ifDoneErrors() {
        Sentences.begin("Promise 26", "INVALID_ARGUMENT");
        for (int kind = 0; kind < 3; kind++) {
            int which = kind;
            refused("ifDone(" + kind + ", 0, 0) of none", INVALID, () -> new StairKin(), x -> x.ifDone(which, 0, 0));
            refused("ifDone(" + kind + ", 6, 0) of six", INVALID, () -> rich(), x -> x.ifDone(which, 6, 0));
            refused("ifDone(" + kind + ", -1, 0)", INVALID, () -> rich(), x -> x.ifDone(which, -1, 0));
            refused("ifDone(" + kind + ", 0, 4)", INVALID, () -> rich(), x -> x.ifDone(which, 0, 4));
            refused("ifDone(" + kind + ", 0, -1)", INVALID, () -> rich(), x -> x.ifDone(which, 0, -1));
        }
        refused("ifDone(3, 0, 0)", INVALID, () -> rich(), x -> x.ifDone(3, 0, 0));
        Sentences.begin("Promise 26", "and the errors of the deed (for 2 NOT_POSSIBLE if the number of the step is 1).");
        for (int what = 0; what < 4; what++) {
            int which = what;
            refused("share at the highest one", INVALID, () -> rich(), x -> x.ifDone(0, 5, which));
            refused("divide at the highest one", INVALID, () -> rich(), x -> x.ifDone(1, 5, which));
            refused("share above the limit", LIMIT, () -> rich(), x -> x.ifDone(0, 4, which));
            refused("share, 10000", LIMIT, () -> stairs(16, 625), x -> x.ifDone(0, 0, which));
            refused("divide of no multiple", NOT_POSSIBLE, () -> rich(), x -> x.ifDone(1, 0, which));
            refused("strike of 1", NOT_POSSIBLE, () -> rich(), x -> x.ifDone(2, 3, which));
        }
        Check.same("share, 9999", stairs(99, 101).ifDone(0, 0, 3), 2);
    }

    private static void most(String call, StairKin x, int... due) {
        for (int what = 0; what < due.length; what++) {
            Check.same(call + ": longest(" + what + ")", x.longest(what), due[what]);
        }
    }

    private static void longest() {
        Sentences.begin("Promise 27", "Finds the longest climb of all.");
        most("in the middle", stairs(7, 2, 4, 6, 5, 1), 3, 1, 3);
        most("on the top", stairs(7, 2, 5, 4, 6, 8), 4, 1, 5);
        most("at the bottom", stairs(6, 4, 2, 7, 1, 5), 3, 0, 2);
        Sentences.begin("Promise 27", "`what`: 0: how many steps it has");
        range("what", 0, 2, () -> rich(), (x, value) -> x.longest(value));
        Check.same("all twelve", alike(12, 2).longest(0), 12);
        Check.same("one", alike(12, 1).longest(0), 1);
        Check.same("by stride 2", stairs(2, 3, 5, 2, 3).longest(0), 1);
        StairKin x = stairs(2, 3, 5, 2, 3);
        x.set(StairKin.STRIDE, 3);
        most("by stride 3", x, 2, 0, 3);
        Sentences.begin("Promise 27", "1: the lowest step from which one of this length goes");
        most("of two apart", stairs(7, 2, 4, 5, 3, 9), 2, 1, 2);
        most("of two that cross", stairs(7, 2, 3, 4, 9, 8, 27), 3, 1, 5);
        most("of twelve", alike(12, 1), 1, 0, 0);
        Sentences.begin("Promise 27", "2: the lowest step to which one goes from there");
        x = stairs(6, 3, 2, 9, 4);
        most("of two from one", x, 3, 0, 3);
        x = stairs(6, 2, 3, 9, 4);
        x.set(StairKin.STRIDE, 3);
        most("the end of the other one is lower", x, 3, 0, 3);
        most("all alike", alike(5, 2), 5, 0, 4);
        Sentences.begin("Promise 27", "Returns the number");
        most("one step", stairs(9999), 1, 0, 0);
        most("of six", rich(), 4, 0, 4);
        Sentences.begin("Promise 27", "INVALID_ARGUMENT");
        refused("longest(3)", INVALID, () -> rich(), y -> y.longest(3));
        refused("longest(-1)", INVALID, () -> full(), y -> y.longest(-1));
        refused("longest(3) of none", INVALID, () -> new StairKin(), y -> y.longest(3));
        Sentences.begin("Promise 27", "NOT_FOUND without steps.");
        for (int what = 0; what < 3; what++) {
            int which = what;
            refused("longest(" + what + ")", NOT_FOUND, () -> new StairKin(), y -> y.longest(which));
        }
    }

    private static void bestStrike() {
        Sentences.begin("Promise 28", "Finds the best strike.");
        Check.same("the second step", stairs(1, 6, 1).bestStrike(), 10002);
        Sentences.begin("Promise 28", "Returns 10000 times the step, and the prime, by which it is struck");
        Check.same("the lowest one", stairs(9973).bestStrike(), 9973);
        Check.same("of twelve, the highest one", stairs(1, 1, 1, 1, 1, 1, 1, 1, 1, 1, 1, 9973).bestStrike(), 119973);
        Check.same("of twelve, the highest one", stairs(1, 1, 1, 1, 1, 1, 1, 1, 1, 1, 1, 2).bestStrike(), 110002);
        Sentences.begin("Promise 28", "so that most pairs of steps would be kin then");
        Check.same("not the one by which they are kin", stairs(2, 6).bestStrike(), 10003);
        StairKin x = stairs(4, 6, 10);
        Check.same("all stay kin", x.bestStrike(), 2);
        x.set(StairKin.RULE, 2);
        Check.same("more are kin by it", x.bestStrike(), 2);
        x = stairs(4, 1, 6, 4);
        x.set(StairKin.RULE, 2);
        Check.same("2 divides 6 and 4 then", x.bestStrike(), 2);
        x = stairs(3, 10, 25);
        x.set(StairKin.RULE, 1);
        Check.same("5 divides 25 then", x.bestStrike(), 10002);
        Sentences.begin("Promise 28", "of several the least number");
        Check.same("the lowest step", stairs(6, 6).bestStrike(), 2);
        Check.same("the least prime", stairs(1, 15, 35).bestStrike(), 10003);
        Check.same("any is as good", stairs(77, 1, 5).bestStrike(), 7);
        Check.same("each exponent alike", alike(12, 8).bestStrike(), 2);
        Sentences.begin("Promise 28", "NOT_FOUND if no step has a prime factor.");
        refused("none", NOT_FOUND, () -> new StairKin(), y -> y.bestStrike());
        refused("ones", NOT_FOUND, () -> stairs(1, 1), y -> y.bestStrike());
        refused("twelve ones", NOT_FOUND, () -> alike(12, 1), y -> y.bestStrike());
    }

    private static void nothingIsChanged() {
        Sentences.begin("Changes and errors", "---- what would be; nothing is changed.");
        for (Made made : new Made[] {() -> new StairKin(), () -> rich(), () -> full("s0;d1;k2.5"), () -> stairs(6, 12)}) {
            kept("ifDone(0, 0, ..)", made, x -> x.ifDone(0, 0, 0) + x.ifDone(0, 0, 1) + x.ifDone(0, 0, 2) + x.ifDone(0, 0, 3));
            kept("ifDone(1, 3, ..)", made, x -> x.ifDone(1, 3, 0) + x.ifDone(1, 0, 1) + x.ifDone(1, 3, 2));
            kept("ifDone(2, 0, ..)", made, x -> x.ifDone(2, 0, 0) + x.ifDone(2, 4, 1) + x.ifDone(2, 1, 3));
            kept("longest(..)", made, x -> x.longest(0) + x.longest(1) + x.longest(2));
            kept("bestStrike()", made, x -> x.bestStrike());
        }
    }

    private static void undo() {
        Sentences.begin("Promise 29", "everything but the pad, the snapshot and why() is as it was before it.");
        StairKin x = rich("s0");
        x.undo();
        numbers("undo() of divide", x, 6, 18, 35, 1, 9973, 14);
        Check.same("chips", x.count(5), 3);
        x.undo();
        numbers("undo() of strike", x, 12, 18, 35, 1, 9973, 14);
        Check.same("chips of 2", x.prime(2, 0), 1);
        x.undo();
        Check.same("stride", x.count(11), 2);
        Check.same("rule", x.count(10), 1);
        x.undo();
        Check.same("rule", x.count(10), 0);
        Check.same("the pad", x.count(12), 2);
        Check.same("why(0)", x.why(0), INVALID);
        Check.same("why(2)", x.why(2), 10);
        x.take(0);
        Check.same("the snapshot", x.restore(), 6);
        Sentences.begin("Promise 29", "Undoes the latest change");
        x = stairs(6, 5);
        x.append('1');
        x.save();
        x.longest(0);
        x.take(7);
        x.undo();
        numbers("calls that are no changes are not undone", x, 6);
        Check.same("the pad", x.count(12), 1);
        Sentences.begin("Promise 29", "Returns how many states the history has then");
        x = stairs(1, 2, 3, 4, 5, 6);
        for (int held = 3; held >= 0; held--) {
            Check.same("undo()", x.undo(), held);
        }
        x.add(0, 7);
        x.add(0, 7);
        Check.same("behind two more", x.undo(), 1);
        Sentences.begin("Promise 29", "NOT_POSSIBLE if it has none.");
        Check.same("the last one", x.undo(), 0);
        Check.same("none", x.undo(), NOT_POSSIBLE);
        Check.same("none still", x.undo(), NOT_POSSIBLE);
        numbers("the state stays", x, 1, 2);
        refused("undo() of a new object", NOT_POSSIBLE, () -> new StairKin(), y -> y.undo());
        refused("undo() with a snapshot alone", NOT_POSSIBLE, () -> {
            StairKin y = new StairKin();
            y.save();
            y.append('1');
            return y;
        }, y -> y.undo());
    }

    /** Changes of {@link #struck}, none of which returns an error; the pad is empty behind each. */
    private static final Call[] CHANGES = {
        x -> x.add(3, 8192), x -> x.take(4), x -> x.share(1), x -> x.divide(3), x -> x.strike(4, 9973), x -> x.strike(2, 7),
        x -> x.set(0, 2), x -> x.set(1, 1), x -> numbersRead(x, "5,7"), x -> deeds(x, "k0.2;s1"), x -> x.restore()
    };

    /**
     * Steps 12, 6, 35, 1, 9973, 14, with three states in the history. Where the fourth one will be written there was
     * another one before, which has been undone: it must not be taken for the one that is due.
     */
    private static StairKin struck() {
        StairKin x = rich("");
        x.undo();
        x.undo();
        deeds(x, "k1.3");
        return x;
    }

    private static void undoOfEach() {
        Sentences.begin("Promise 29", "`int undo()`: Undoes the latest change");
        numbers("before the changes", struck(), 12, 6, 35, 1, 9973, 14);
        for (int change = 0; change < CHANGES.length; change++) {
            Call with = CHANGES[change];
            Call withUndo = x -> {
                Check.same("it is no error", with.on(x) >= 0 ? 1 : 0, 1);
                Check.same("undo()", x.undo(), 3);
                return 0;
            };
            kept("change " + change + " and undo()", () -> struck(), withUndo);
            // A full history drops its oldest state, whichever change it was.
            Made full = () -> {
                StairKin x = struck();
                x.add(6, 3);
                return x;
            };
            asBehind("change " + change + " and undo(), full history", full, withUndo, x -> x.set(0, 1) + x.undo());
        }
        Made settled = () -> {
            StairKin x = shared(8, 12);
            x.set(1, 3);
            x.undo();
            x.add(0, 6);
            x.set(1, 4);
            x.undo();
            return x;
        };
        kept("settle() and undo()", settled, x -> x.settle() + x.undo());
        kept("settle() of none and undo()", () -> new StairKin(), x -> x.settle() + x.undo());
        StairKin x = shared(8, 12);
        numbersRead(x, "5,7");
        x.undo();
        numbers("undo() of read()", x, 8, 12);
        Check.same("came of 5", x.prime(5, 1), 0);
        deeds(x, "s0;k1.3;d0");
        numbers("carryOut()", x, 4, 2);
        x.undo();
        numbers("undo() of carryOut()", x, 8, 12);
        Check.same("chips", x.count(5), 0);
    }

    private static void accounts(String call, StairKin x, int prime, int chips, int came) {
        Check.same(call + ": chips of " + prime, x.prime(prime, 0), chips);
        Check.same(call + ": came of " + prime, x.prime(prime, 1), came);
    }

    private static void undoOfAccounts() {
        Sentences.begin("Promise 29", "everything but the pad, the snapshot and why() is as it was before it.");
        StairKin x = stairs(7);
        x.strike(0, 7);
        x.undo();
        x.undo();
        x.add(0, 5);
        accounts("another prime behind undo()", x, 5, 0, 1);
        accounts("another prime behind undo()", x, 7, 0, 0);
        x = stairs(2);
        x.strike(0, 2);
        x.save();
        x.undo();
        x.undo();
        x.add(0, 9);
        x.restore();
        accounts("restore()", x, 2, 1, 1);
        accounts("restore()", x, 3, 0, 0);
        x.undo();
        accounts("undo() of restore()", x, 2, 0, 0);
        accounts("undo() of restore()", x, 3, 0, 2);
        x = new StairKin();
        int[] primes = {2, 3, 5, 7, 11, 13, 17, 19, 23, 29, 31, 37, 41, 43, 47, 53, 59, 61, 67, 71, 73, 79, 83, 89, 97, 9973};
        for (int prime : primes) {
            x.add(0, prime);
            x.strike(0, prime);
        }
        x.save();
        x.add(0, 101);
        x.strike(0, 101);
        x.undo();
        accounts("undo() of many", x, 101, 0, 1);
        x.undo();
        accounts("undo() of many", x, 101, 0, 0);
        x.undo();
        accounts("undo() of many", x, 9973, 0, 1);
        x.restore();
        for (int prime : primes) {
            accounts("restore() of many", x, prime, 1, 1);
        }
        Check.same("chips", x.count(5), primes.length);
        Check.same("different primes of chips", x.count(6), primes.length);
    }

    private static void save() {
        Sentences.begin("Promise 30", "Takes a snapshot of everything but the pad, the history and why()");
        StairKin x = stairs(30, 7, 8);
        x.strike(1, 7);
        x.set(0, 1);
        x.set(1, 4);
        write(x, "s0;d5");
        x.save();
        x.clear();
        x.strike(0, 5);
        x.set(0, 2);
        x.set(1, 1);
        x.take(1);
        x.add(0, 7);
        x.strike(0, 7);
        deeds(x, "s0");
        x.restore();
        numbers("restore()", x, 30, 8);
        Check.same("chips", x.count(5), 1);
        Check.same("broke", x.count(7), 1);
        Check.same("came of 2", x.prime(2, 1), 4);
        Check.same("rule", x.count(10), 1);
        Check.same("stride", x.count(11), 4);
        Check.same("the pad is not brought back", x.count(12), 0);
        Check.same("the history is not brought back", x.count(13), 4);
        Check.same("why(0) is not brought back", x.why(0), INVALID);
        write(x, "4,6");
        x.strike(1, 2);
        x.restore();
        Check.same("the pad is no part of what was", x.count(12), 3);
        Check.same("fault(0) of it", x.fault(0), NOT_FOUND);
        Check.same("undo() of restore()", x.undo(), 3);
        Check.same("undo() of strike()", x.undo(), 2);
        numbers("undo() of strike()", x, 30, 8);
        Check.same("undo() of the first restore()", x.undo(), 1);
        numbers("undo() of the first restore()", x, 6);
        Sentences.begin("Promise 30", "in place of the one that was.");
        x.save();
        x.add(0, 9);
        Check.same("restore() of the later one", x.restore(), 1);
        numbers("restore() of the later one", x, 6);
        x.take(0);
        x.save();
        x.add(0, 9);
        Check.same("restore() of no steps", x.restore(), 0);
        Sentences.begin("Promise 30", "Returns how many steps there are.");
        Check.same("none", new StairKin().save(), 0);
        Check.same("six", rich().save(), 6);
        Check.same("twelve", full().save(), 12);
        x = full();
        x.save();
        x.save();
        Check.same("no change", x.count(13), 4);
        Check.same("no state of it", x.undo(), 3);
        Check.same("the change before it is undone", x.count(0), 11);
    }

    private static void restore() {
        Sentences.begin("Promise 31", "Restores the snapshot, which stays.");
        StairKin x = rich();
        for (int turn = 0; turn < 3; turn++) {
            x.restore();
            numbers("restore()", x, 12, 18, 35, 1, 9973, 14);
            Check.same("chips", x.count(5), 2);
            Check.same("came of 2", x.prime(2, 1), 5);
            x.strike(0, 2);
            x.add(0, 2);
            x.set(1, 1 + turn);
            x.undo();
        }
        Check.same("undo() of add", x.undo() >= 0 ? 1 : 0, 1);
        x.undo();
        numbers("undo() leaves what restore() brought", x, 12, 18, 35, 1, 9973, 14);
        x = new StairKin();
        x.save();
        x.add(0, 7);
        x.strike(0, 7);
        x.restore();
        x.add(0, 15);
        for (int prime : new int[] {3, 5}) {
            accounts("another prime behind restore()", x, prime, 0, 1);
        }
        accounts("another prime behind restore()", x, 7, 0, 0);
        Check.same("chips", x.count(5), 0);
        Sentences.begin("Promise 31", "Returns how many steps there are then");
        Check.same("six", full().restore(), 6);
        x = new StairKin();
        x.save();
        x.add(0, 5);
        Check.same("none", x.restore(), 0);
        x = full();
        x.save();
        x.take(0);
        x.take(0);
        Check.same("twelve", x.restore(), 12);
        Check.same("add to them", x.add(0, 1), LIMIT);
        Sentences.begin("Promise 31", "NOT_POSSIBLE if there is none.");
        refused("of a new object", NOT_POSSIBLE, () -> new StairKin(), y -> y.restore());
        refused("of two steps", NOT_POSSIBLE, () -> stairs(6, 5), y -> y.restore());
        Check.same("none still", stairs(6, 5).restore(), NOT_POSSIBLE);
    }
}
