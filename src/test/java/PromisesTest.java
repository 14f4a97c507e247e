/** Promise by promise: answers that were worked out by hand from the document. */
public final class PromisesTest extends Cases {
    private PromisesTest() {
    }

    public static void main(String[] args) {
        newObject();
        add();
        take();
        share();
        divide();
        strike();
        settle();
        set();
        append();
        clear();
        faultOfNumbers();
        faultOfDeeds();
        read();
        carryOut();
        why();
        step();
        stepFamilies();
        factor();
        common();
        whyNot();
        climbs();
        climb();
        climbTies();
        climbAt();
        crown();
        prime();
        manyPrimes();
        count();
        mean();
        ifDone();
        longest();
        bestStrike();
        undo();
        undoKeeps();
        save();
        restore();
        errorsChangeNothing();
        Check.end("PromisesTest");
    }

    private static void newObject() {
        Check.part("promise 1");
        StairKin x = new StairKin();
        int[] due = {0, 0, 0, 0, 1, 0, 0, 0, 0, 0, 0, 2, 0, 0};
        for (int what = 0; what < due.length; what++) {
            Check.same("count(" + what + ")", x.count(what), due[what]);
        }
        Check.same("mean()", x.mean(), 0.0);
        Check.same("step(0, 0)", x.step(0, 0), INVALID);
        Check.same("crown()", x.crown(), NOT_FOUND);
        Check.same("longest(0)", x.longest(0), NOT_FOUND);
        Check.same("bestStrike()", x.bestStrike(), NOT_FOUND);
        Check.same("why(0)", x.why(0), NOT_FOUND);
        Check.same("undo()", x.undo(), NOT_POSSIBLE);
        Check.same("restore()", x.restore(), NOT_POSSIBLE);
        Check.same("prime(2, 0)", x.prime(2, 0), 0);
        Check.same("prime(2, 1)", x.prime(2, 1), 0);
        Check.same("prime(2, 3)", x.prime(2, 3), 0);
        Check.same("another object", stairs(7).count(0) + new StairKin().count(0), 1);
    }

    private static void add() {
        Check.part("promise 2");
        StairKin x = new StairKin();
        Check.same("add(1, 5) without steps", x.add(1, 5), INVALID);
        Check.same("add(0, 0)", x.add(0, 0), INVALID);
        Check.same("add(0, 10000)", x.add(0, 10000), INVALID);
        Check.same("add(-1, 5)", x.add(-1, 5), INVALID);
        Check.same("add(least, most)", x.add(LEAST, MOST), INVALID);
        Check.same("add(most, 5)", x.add(MOST, 5), INVALID);
        Check.same("history", x.count(13), 0);
        Check.same("add(0, 1)", x.add(0, 1), 1);
        Check.same("add(0, 9999)", x.add(0, 9999), 2);
        Check.same("add(1, 12)", x.add(1, 12), 3);
        Check.same("add(3, 7)", x.add(3, 7), 4);
        numbers("add", x, 9999, 12, 1, 7);
        Check.same("history", x.count(13), 4);
        for (int steps = 5; steps <= 12; steps++) {
            Check.same("add(0, " + steps + ")", x.add(0, steps), steps);
        }
        Check.same("add(0, 3) to 12", x.add(0, 3), LIMIT);
        Check.same("add(12, 3) to 12", x.add(12, 3), LIMIT);
        Check.same("add(13, 3) to 12", x.add(13, 3), INVALID);
        Check.same("add(0, 0) to 12", x.add(0, 0), INVALID);
        numbers("add", x, 12, 11, 10, 9, 8, 7, 6, 5, 9999, 12, 1, 7);
    }

    private static void take() {
        Check.part("promise 3");
        StairKin x = stairs(4, 6, 9, 25);
        Check.same("take(-1)", x.take(-1), INVALID);
        Check.same("take(4)", x.take(4), INVALID);
        Check.same("take(least)", x.take(LEAST), INVALID);
        Check.same("take(most)", x.take(MOST), INVALID);
        Check.same("take(1)", x.take(1), 6);
        numbers("take(1)", x, 4, 9, 25);
        Check.same("take(2)", x.take(2), 25);
        Check.same("take(0)", x.take(0), 4);
        numbers("take(0)", x, 9);
        Check.same("take(0)", x.take(0), 9);
        Check.same("take(0) without steps", x.take(0), INVALID);
        Check.same("no step broke", x.count(7), 0);
        Check.same("no chips", x.count(5), 0);
        Check.same("history", x.count(13), 4);
    }

    private static void share() {
        Check.part("promise 4");
        StairKin x = stairs(12, 18, 35);
        Check.same("share(2)", x.share(2), INVALID);
        Check.same("share(-1)", x.share(-1), INVALID);
        Check.same("share(most)", x.share(MOST), INVALID);
        Check.same("share(least)", x.share(LEAST), INVALID);
        Check.same("share(0)", x.share(0), 6);
        numbers("share(0)", x, 6, 36, 35);
        Check.same("share(1)", x.share(1), 1);
        numbers("share(1)", x, 6, 1, 1260);
        Check.same("share(0)", x.share(0), 1);
        numbers("a step that bears 1 stays", x, 1, 6, 1260);
        Check.same("broke", x.count(7), 0);
        Check.same("chips", x.count(5), 0);
        Check.same("share(0) without steps", new StairKin().share(0), INVALID);
        Check.same("share(0) with one step", stairs(8).share(0), INVALID);
        x = stairs(99, 101, 100, 101);
        Check.same("share(0), just below the limit", x.share(0), 1);
        numbers("share(0)", x, 1, 9999, 100, 101);
        Check.same("share(2) above the limit", x.share(2), LIMIT);
        Check.same("history", x.count(13), 4);
        x = stairs(9999, 9998);
        Check.same("share(0) far above the limit", x.share(0), LIMIT);
        x = stairs(9999, 9999);
        Check.same("share(0) of the same", x.share(0), 9999);
        x = stairs(10, 1000, 625);
        Check.same("share(1) of 1000 and 625", x.share(1), 125);
        numbers("share(1)", x, 10, 125, 5000);
    }

    private static void divide() {
        Check.part("promise 5");
        StairKin x = stairs(12, 72, 7, 1);
        Check.same("divide(3)", x.divide(3), INVALID);
        Check.same("divide(-1)", x.divide(-1), INVALID);
        Check.same("divide(most)", x.divide(MOST), INVALID);
        Check.same("divide(1)", x.divide(1), NOT_POSSIBLE);
        Check.same("divide(2): 1 is no multiple of 7", x.divide(2), NOT_POSSIBLE);
        Check.same("divide(0)", x.divide(0), 6);
        numbers("divide(0)", x, 12, 6, 7, 1);
        Check.same("chips of 2", x.prime(2, 0), 2);
        Check.same("chips of 3", x.prime(3, 0), 1);
        Check.same("chips", x.count(5), 3);
        Check.same("divide(0) again", x.divide(0), NOT_POSSIBLE);
        Check.same("divide(0) without steps", new StairKin().divide(0), INVALID);
        x = stairs(5, 15, 15, 4);
        Check.same("divide(1)", x.divide(1), 1);
        numbers("the step above breaks", x, 5, 15, 4);
        Check.same("broke", x.count(7), 1);
        Check.same("came of 3", x.prime(3, 1), 2);
        Check.same("chips of 3", x.prime(3, 0), 1);
        Check.same("chips of 5", x.prime(5, 0), 1);
        x = stairs(1, 1, 6);
        Check.same("divide(0) of 1 by 1", x.divide(0), 1);
        numbers("it breaks, too", x, 1, 6);
        Check.same("broke", x.count(7), 1);
        Check.same("divide(0) by 1", x.divide(0), 6);
        numbers("the lower one stays", x, 1, 6);
        Check.same("chips", x.count(5), 0);
    }

    private static void strike() {
        Check.part("promise 6");
        StairKin x = stairs(360, 7, 9973, 1);
        Check.same("strike(0, 1)", x.strike(0, 1), INVALID);
        Check.same("strike(0, 0)", x.strike(0, 0), INVALID);
        Check.same("strike(0, -2)", x.strike(0, -2), INVALID);
        Check.same("strike(0, least)", x.strike(0, LEAST), INVALID);
        Check.same("strike(0, 4)", x.strike(0, 4), INVALID);
        Check.same("strike(0, 9)", x.strike(0, 9), INVALID);
        Check.same("strike(2, 9999)", x.strike(2, 9999), INVALID);
        Check.same("strike(2, 9409), the square of 97", x.strike(2, 9409), INVALID);
        Check.same("strike(0, 10007)", x.strike(0, 10007), INVALID);
        Check.same("strike(0, most)", x.strike(0, MOST), INVALID);
        Check.same("strike(4, 2)", x.strike(4, 2), INVALID);
        Check.same("strike(-1, 2)", x.strike(-1, 2), INVALID);
        Check.same("strike(0, 7)", x.strike(0, 7), NOT_POSSIBLE);
        Check.same("strike(3, 2) of 1", x.strike(3, 2), NOT_POSSIBLE);
        Check.same("strike(0, 2)", x.strike(0, 2), 180);
        Check.same("strike(0, 3)", x.strike(0, 3), 60);
        numbers("strike", x, 60, 7, 9973, 1);
        Check.same("strike(1, 7)", x.strike(1, 7), 1);
        numbers("strike breaks", x, 60, 9973, 1);
        Check.same("strike(1, 9973)", x.strike(1, 9973), 1);
        numbers("strike breaks", x, 60, 1);
        Check.same("broke", x.count(7), 2);
        Check.same("chips", x.count(5), 4);
        Check.same("kinds of chips", x.count(6), 4);
        Check.same("came of 7", x.prime(7, 1), 1);
        Check.same("came of 2", x.prime(2, 1), 3);
    }

    private static void settle() {
        Check.part("promise 7");
        StairKin x = new StairKin();
        Check.same("settle() without steps", x.settle(), 0);
        Check.same("it is a change", x.count(13), 1);
        x = stairs(8, 4, 2, 1);
        Check.same("count(4)", x.count(4), 0);
        Check.same("settle()", x.settle(), 3);
        numbers("settle()", x, 1, 2, 4, 8);
        Check.same("count(4)", x.count(4), 1);
        Check.same("settle() again", x.settle(), 0);
        x = stairs(4, 6, 9);
        Check.same("settle() in one round", x.settle(), 2);
        numbers("settle()", x, 1, 6, 36);
        x = stairs(6, 4);
        Check.same("settle() of two", x.settle(), 1);
        numbers("settle()", x, 2, 12);
        x = stairs(97, 101, 103);
        Check.same("settle() above the limit", x.settle(), LIMIT);
        numbers("nothing is changed", x, 97, 101, 103);
        Check.same("history", x.count(13), 3);
        x = stairs(3, 2, 9999, 10);
        Check.same("settle() above the limit behind two shares", x.settle(), LIMIT);
        numbers("nothing is changed", x, 3, 2, 9999, 10);
        x = stairs(2048, 1024, 512, 256, 128, 64, 32, 16, 8, 4, 2, 1);
        Check.same("settle() of twelve", x.settle(), 11);
        numbers("settle()", x, 1, 2, 4, 8, 16, 32, 64, 128, 256, 512, 1024, 2048);
        Check.same("came of 2", x.prime(2, 1), 66);
    }

    private static void set() {
        Check.part("promise 8");
        StairKin x = stairs(6, 4);
        Check.same("set(-1, 0)", x.set(-1, 0), INVALID);
        Check.same("set(2, 0)", x.set(2, 0), INVALID);
        Check.same("set(0, -1)", x.set(0, -1), INVALID);
        Check.same("set(0, 3)", x.set(0, 3), INVALID);
        Check.same("set(1, 0)", x.set(1, 0), INVALID);
        Check.same("set(1, 5)", x.set(1, 5), INVALID);
        Check.same("set(most, least)", x.set(MOST, LEAST), INVALID);
        Check.same("history", x.count(13), 2);
        Check.same("set(0, 2)", x.set(StairKin.RULE, 2), 0);
        Check.same("set(0, 2) again", x.set(0, 2), 2);
        Check.same("history", x.count(13), 4);
        Check.same("set(0, 1)", x.set(0, 1), 2);
        Check.same("set(0, 0)", x.set(0, 0), 1);
        Check.same("set(1, 4)", x.set(StairKin.STRIDE, 4), 2);
        Check.same("set(1, 1)", x.set(1, 1), 4);
        Check.same("count(10)", x.count(10), 0);
        Check.same("count(11)", x.count(11), 1);
        x = stairs(6, 4, 3, 12, 1, 5);
        Check.same("pairs by common divisors", x.count(1), 5);
        x.set(0, 1);
        Check.same("pairs by multiples", x.count(1), 9);
        x.set(0, 2);
        Check.same("pairs by multiples above", x.count(1), 4);
    }

    private static void append() {
        Check.part("promise 9");
        StairKin x = new StairKin();
        Check.same("append(32)", x.append(32), INVALID);
        Check.same("append(127)", x.append(127), INVALID);
        Check.same("append(-1)", x.append(-1), INVALID);
        Check.same("append(most)", x.append(MOST), INVALID);
        Check.same("append(33)", x.append(33), 1);
        Check.same("append(126)", x.append(126), 2);
        for (int length = 3; length <= 60; length++) {
            Check.same("append", x.append('5'), length);
        }
        Check.same("append to 60", x.append('5'), LIMIT);
        Check.same("append(32) to 60", x.append(32), INVALID);
        Check.same("count(12)", x.count(12), 60);
        Check.same("no change", x.count(13), 0);
    }

    private static void clear() {
        Check.part("promise 10");
        StairKin x = new StairKin();
        Check.same("clear() of nothing", x.clear(), 0);
        write(x, "s0;d1");
        Check.same("clear()", x.clear(), 5);
        Check.same("count(12)", x.count(12), 0);
        Check.same("clear() again", x.clear(), 0);
        Check.same("append", x.append('7'), 1);
        Check.same("fault(0)", x.fault(0), NOT_FOUND);
        Check.same("no change", x.count(13), 0);
    }

    private static void fault(String text, int way, int due) {
        StairKin x = new StairKin();
        write(x, text);
        Check.same("fault(" + way + ") of " + text, x.fault(way), due);
        Check.same("the pad stays", x.count(12), text.length());
    }

    private static void faultOfNumbers() {
        Check.part("promise 11, numbers");
        StairKin x = new StairKin();
        Check.same("fault(-1)", x.fault(-1), INVALID);
        Check.same("fault(2)", x.fault(2), INVALID);
        fault("", 0, 0);
        fault("7", 0, NOT_FOUND);
        fault("9999", 0, NOT_FOUND);
        fault("10000", 0, 4);
        fault("99999", 0, 4);
        fault("0", 0, 0);
        fault("01", 0, 0);
        fault("10", 0, NOT_FOUND);
        fault(",1", 0, 0);
        fault("1,", 0, 2);
        fault("1,,2", 0, 2);
        fault("1,02", 0, 2);
        fault("1,2", 0, NOT_FOUND);
        fault("1;2", 0, 1);
        fault("12a", 0, 2);
        fault("-1", 0, 0);
        fault("+1", 0, 0);
        fault("1/", 0, 1);
        fault("1:", 0, 1);
        fault("s0", 0, 0);
        fault("1,1,1,1,1,1,1,1,1,1,1,1,1,1,1", 0, NOT_FOUND);
        fault("1,1,1,1,1,1,1,1,1,1,1,1,1,1,1,1,1,1,1,1,1,1,1,1,1,1,1,1,1,1", 0, NOT_FOUND);
        fault("1,".repeat(28) + "11,", 0, 59);
        fault("1,".repeat(28) + "111,", 0, 60);
        fault("9999,9999,9999,9999,9999,9999,9999,9999,9999,9999,9999,99999", 0, 59);
    }

    private static void faultOfDeeds() {
        Check.part("promise 11, deeds");
        fault("", 1, 0);
        fault("s", 1, 1);
        fault("s0", 1, NOT_FOUND);
        fault("s00", 1, 2);
        fault("s01", 1, 2);
        fault("s11", 1, NOT_FOUND);
        fault("s12", 1, 2);
        fault("s1", 1, NOT_FOUND);
        fault("s10", 1, NOT_FOUND);
        fault("s9", 1, NOT_FOUND);
        fault("s20", 1, 2);
        fault("s110", 1, 3);
        fault("d0", 1, NOT_FOUND);
        fault("d11;", 1, 4);
        fault("d0,d1", 1, 2);
        fault("d0;;d1", 1, 3);
        fault(";d0", 1, 0);
        fault("k0", 1, 2);
        fault("k0;", 1, 2);
        fault("k0.", 1, 3);
        fault("k0.0", 1, 3);
        fault("k0.1", 1, 4);
        fault("k0.1;", 1, 4);
        fault("k0.10", 1, NOT_FOUND);
        fault("k0.02", 1, 3);
        fault("k0.2", 1, NOT_FOUND);
        fault("k0.9999", 1, NOT_FOUND);
        fault("k0.10000", 1, 7);
        fault("k12.2", 1, 2);
        fault("k11.2;k10.3;s4;d7", 1, NOT_FOUND);
        fault("k0.2.3", 1, 4);
        fault("s0.2", 1, 2);
        fault("S0", 1, 0);
        fault("x", 1, 0);
        fault("1", 1, 0);
        fault("s/", 1, 1);
        fault("s:", 1, 1);
        fault("s0;s0;s0;s0;s0;s0;s0;s0;s0;s0;s0;s0;s0;s0;s0;s0;s0;s0;s0;s0;", 1, 60);
        fault("s0;s0;s0;s0;s0;s0;s0;s0;s0;s0;s0;s0;s0;s0;s0;s0;s0;s0;s0;s11", 1, NOT_FOUND);
    }

    private static void read() {
        Check.part("promise 12");
        StairKin x = stairs(5);
        Check.same("read() of nothing", x.read(), NOT_POSSIBLE);
        write(x, "4,6,");
        Check.same("read() with a fault", x.read(), NOT_POSSIBLE);
        Check.same("the pad stays", x.count(12), 4);
        Check.same("append", x.append('9'), 5);
        Check.same("read()", x.read(), 4);
        numbers("read()", x, 5, 4, 6, 9);
        Check.same("the pad is empty", x.count(12), 0);
        Check.same("one change", x.count(13), 2);
        Check.same("came of 2", x.prime(2, 1), 3);
        Check.same("came of 3", x.prime(3, 1), 3);
        write(x, "1,2,3,4,5,6,7,8,9");
        Check.same("read() beyond 12", x.read(), LIMIT);
        Check.same("the pad stays", x.count(12), 17);
        Check.same("no change", x.count(13), 2);
        write(x, "1,2,3,4,5,6,7,8,x");
        Check.same("read() with a fault beyond 12", x.read(), NOT_POSSIBLE);
        write(x, "1,2,3,4,5,6,7,9999");
        Check.same("read() up to 12", x.read(), 12);
        numbers("read()", x, 5, 4, 6, 9, 1, 2, 3, 4, 5, 6, 7, 9999);
        write(x, "1");
        Check.same("read() to 12", x.read(), LIMIT);
        Check.same("undo()", x.undo(), 2);
        numbers("undo()", x, 5, 4, 6, 9);
        Check.same("undo() leaves the pad", x.count(12), 1);
        write(x, "s0");
        Check.same("read() of deeds", x.read(), NOT_POSSIBLE);
    }

    private static void carryOut() {
        Check.part("promise 13");
        StairKin x = stairs(12, 18, 7);
        Check.same("carryOut() of nothing", x.carryOut(), NOT_POSSIBLE);
        Check.same("carryOut() with a fault", deeds(x, "s0;"), NOT_POSSIBLE);
        Check.same("the pad stays", x.count(12), 3);
        numbers("nothing is carried out", x, 12, 18, 7);
        Check.same("history", x.count(13), 3);
        Check.same("carryOut()", deeds(x, "s0;d0;k2.7;k1.3"), 4);
        numbers("carryOut()", x, 6, 2);
        Check.same("the pad is empty", x.count(12), 0);
        Check.same("broke", x.count(7), 1);
        Check.same("chips", x.count(5), 4);
        Check.same("history", x.count(13), 4);
        Check.same("undo() undoes all of it", x.undo(), 3);
        numbers("undo()", x, 12, 18, 7);
        Check.same("chips", x.count(5), 0);
        Check.same("carryOut() up to an error", deeds(x, "s0;k0.5;s0"), 1);
        numbers("carryOut()", x, 6, 36, 7);
        Check.same("the pad is empty", x.count(12), 0);
        Check.same("one change", x.count(13), 4);
        x = stairs(2, 3);
        Check.same("carryOut() of none", deeds(x, "k0.3;s0"), 0);
        numbers("nothing is carried out", x, 2, 3);
        Check.same("it is a change", x.count(13), 3);
        Check.same("the pad is empty", x.count(12), 0);
        Check.same("without steps", deeds(new StairKin(), "s0"), 0);
        write(x, "4,6");
        Check.same("carryOut() of numbers", x.carryOut(), NOT_POSSIBLE);
    }

    private static void stop(String text, StairKin x, int carried, int error, int number, int position) {
        Check.same(text, deeds(x, text), carried);
        Check.same(text + ": why(0)", x.why(0), error);
        Check.same(text + ": why(1)", x.why(1), number);
        Check.same(text + ": why(2)", x.why(2), position);
    }

    private static void why() {
        Check.part("promise 14");
        StairKin x = stairs(4, 6);
        Check.same("why(-1)", x.why(-1), INVALID);
        Check.same("why(3)", x.why(3), INVALID);
        Check.same("why(1) of none", x.why(1), NOT_FOUND);
        stop("k0.2;k11.2;s0", x, 1, INVALID, 1, 5);
        Check.same("why(-1)", x.why(-1), INVALID);
        Check.same("why(3)", x.why(3), INVALID);
        stop("k0.4", x, 0, INVALID, 0, 0);
        stop("k1.3;k1.3", x, 1, NOT_POSSIBLE, 1, 5);
        Check.same("undo()", x.undo() >= 0 ? 1 : 0, 1);
        Check.same("it is not undone", x.why(0), NOT_POSSIBLE);
        Check.same("carryOut() with a fault", deeds(x, "s0;x"), NOT_POSSIBLE);
        Check.same("it stays", x.why(2), 5);
        Check.same("all are carried out", deeds(x, "s0"), 1);
        Check.same("why(0)", x.why(0), NOT_FOUND);
        Check.same("why(2)", x.why(2), NOT_FOUND);
        x.save();
        stop("s1", x, 0, INVALID, 0, 0);
        x.restore();
        Check.same("it is not restored", x.why(0), INVALID);
        x = stairs(100, 101, 3, 9999);
        stop("s2;s2;s2;s0;d0", x, 3, LIMIT, 3, 9);
        stop("d2;d3", x, 1, INVALID, 1, 3);
        x = stairs(10, 3);
        stop("d0", x, 0, NOT_POSSIBLE, 0, 0);
    }

    private static void step() {
        Check.part("promise 15");
        StairKin x = stairs(360, 1, 9973, 8192, 15);
        Check.same("step(5, 0)", x.step(5, 0), INVALID);
        Check.same("step(-1, 0)", x.step(-1, 0), INVALID);
        Check.same("step(0, -1)", x.step(0, -1), INVALID);
        Check.same("step(0, 8)", x.step(0, 8), INVALID);
        Check.same("step(most, least)", x.step(MOST, LEAST), INVALID);
        int[][] due = {
            {360, 2, 0, 3, 6, 3, 5, 0}, {1, 0, 1, 1, 0, 0, NOT_FOUND, 0}, {9973, 0, 2, 1, 1, 1, 9973, 0},
            {8192, 1, 0, 3, 13, 1, 2, 0}, {15, 1, 0, 3, 2, 2, 5, 0},
        };
        for (int step = 0; step < due.length; step++) {
            for (int what = 0; what < due[step].length; what++) {
                Check.same("step(" + step + ", " + what + ")", x.step(step, what), due[step][what]);
            }
        }
        x = stairs(2, 4, 3, 6, 8, 10);
        Check.same("goes on by stride 2", x.step(0, 7), 1);
        Check.same("goes on by stride 2", x.step(1, 7), 1);
        Check.same("goes on by stride 2", x.step(3, 7), 2);
        Check.same("goes on from the top", x.step(5, 7), 0);
        x.set(1, 4);
        Check.same("goes on by stride 4", x.step(0, 7), 3);
        Check.same("kin wherever they are", x.step(0, 1), 4);
        x.set(1, 1);
        Check.same("goes on by stride 1", x.step(0, 7), 1);
        Check.same("goes on by stride 1", x.step(1, 7), 0);
    }

    private static void stepFamilies() {
        Check.part("promise 15, families");
        StairKin x = stairs(2, 3, 5, 35, 6, 7);
        Check.same("step(1, 2) by step 4", x.step(1, 2), 0);
        Check.same("step(1, 3)", x.step(1, 3), 3);
        Check.same("step(5, 2) by step 3", x.step(5, 2), 2);
        Check.same("step(2, 3)", x.step(2, 3), 3);
        x.set(0, 2);
        Check.same("2 divides 6 above", x.step(4, 2), 0);
        Check.same("7 stands above 35", x.step(5, 2), 5);
        Check.same("7 stands above 35", x.step(5, 3), 1);
        Check.same("5 divides 35", x.step(3, 2), 2);
        x.set(0, 1);
        Check.same("35 is a multiple of 7", x.step(5, 2), 2);
        x = stairs(11, 2, 3, 11, 13, 26, 39, 7);
        Check.same("a chain of kin", x.step(2, 2), 1);
        Check.same("a chain of kin", x.step(2, 3), 5);
        Check.same("another family", x.step(3, 2), 0);
        Check.same("families", x.count(2), 3);
        Check.same("greatest family", x.count(3), 5);
    }

    private static void factor() {
        Check.part("promise 16");
        StairKin x = stairs(360, 1, 9973, 9409);
        int[] due = {2, 2, 2, 3, 3, 5, NOT_FOUND};
        for (int place = 0; place < due.length; place++) {
            Check.same("factor(0, " + place + ")", x.factor(0, place), due[place]);
        }
        Check.same("factor(0, most)", x.factor(0, MOST), NOT_FOUND);
        Check.same("factor(0, -1)", x.factor(0, -1), INVALID);
        Check.same("factor(0, least)", x.factor(0, LEAST), INVALID);
        Check.same("factor(4, 0)", x.factor(4, 0), INVALID);
        Check.same("factor(-1, 0)", x.factor(-1, 0), INVALID);
        Check.same("factor(1, 0) of 1", x.factor(1, 0), NOT_FOUND);
        Check.same("factor(2, 0)", x.factor(2, 0), 9973);
        Check.same("factor(2, 1)", x.factor(2, 1), NOT_FOUND);
        Check.same("factor(3, 1)", x.factor(3, 1), 97);
        x = stairs(8192);
        Check.same("factor(0, 12)", x.factor(0, 12), 2);
        Check.same("factor(0, 13)", x.factor(0, 13), NOT_FOUND);
    }

    private static void common() {
        Check.part("promise 17");
        StairKin x = stairs(360, 84, 1, 9973, 8192);
        int[][] due = {
            {360, 12, 1, 1, 8}, {12, 84, 1, 1, 4}, {1, 1, 1, 1, 1}, {1, 1, 1, 9973, 1}, {8, 4, 1, 1, 8192},
        };
        for (int one = 0; one < due.length; one++) {
            for (int other = 0; other < due.length; other++) {
                Check.same("common " + one + " " + other, x.common(one, other, 0), due[one][other]);
                Check.same("common " + one + " " + other, x.common(one, other, 1), due[one][other]);
            }
        }
        Check.same("common(0, 1, 2)", x.common(0, 1, 2), INVALID);
        Check.same("common(0, 1, -1)", x.common(0, 1, -1), INVALID);
        Check.same("common(5, 1, 0)", x.common(5, 1, 0), INVALID);
        Check.same("common(0, -1, 1)", x.common(0, -1, 1), INVALID);
    }

    private static void whyNot() {
        Check.part("promise 18");
        StairKin x = stairs(6, 4, 9, 8, 5);
        Check.same("whyNot(0, 1)", x.whyNot(0, 1), 0);
        Check.same("whyNot(0, 2)", x.whyNot(0, 2), 0);
        Check.same("whyNot(0, 3)", x.whyNot(0, 3), 2);
        Check.same("whyNot(0, 4)", x.whyNot(0, 4), 2);
        Check.same("whyNot(1, 2)", x.whyNot(1, 2), 3);
        Check.same("whyNot(1, 1)", x.whyNot(1, 1), 1);
        Check.same("whyNot(3, 0)", x.whyNot(3, 0), 1);
        Check.same("whyNot(5, 0)", x.whyNot(5, 0), INVALID);
        Check.same("whyNot(0, 5)", x.whyNot(0, 5), INVALID);
        Check.same("whyNot(-1, 0)", x.whyNot(-1, 0), INVALID);
        Check.same("whyNot(least, most)", x.whyNot(LEAST, MOST), INVALID);
        x.set(1, 3);
        Check.same("whyNot(0, 3) by stride 3", x.whyNot(0, 3), 0);
        x.set(0, 2);
        Check.same("whyNot(0, 3) by multiples", x.whyNot(0, 3), 3);
        Check.same("whyNot(1, 3) by multiples", x.whyNot(1, 3), 0);
        x.set(0, 1);
        Check.same("whyNot(0, 1) by multiples", x.whyNot(0, 1), 3);
    }

    private static void paths(StairKin x, int from, int to, int due) {
        Check.same("climbs(" + from + ", " + to + ", 0)", x.climbs(from, to, 0), due);
        Check.same("climbs(" + from + ", " + to + ", 1)", x.climbs(from, to, 1), due);
    }

    private static void climbs() {
        Check.part("promise 19");
        StairKin x = stairs(2, 2, 2, 2, 2, 2, 2, 2, 2, 2, 2, 2);
        paths(x, 0, 0, 1);
        paths(x, 0, 1, 1);
        paths(x, 0, 2, 2);
        paths(x, 0, 11, 144);
        paths(x, 3, 11, 34);
        x.set(1, 1);
        paths(x, 0, 11, 1);
        x.set(1, 3);
        paths(x, 0, 11, 504);
        x.set(1, 4);
        paths(x, 0, 11, 773);
        Check.same("climbs(1, 0, 0)", x.climbs(1, 0, 0), INVALID);
        Check.same("climbs(0, 1, 2)", x.climbs(0, 1, 2), INVALID);
        Check.same("climbs(0, 1, -1)", x.climbs(0, 1, -1), INVALID);
        Check.same("climbs(0, 12, 0)", x.climbs(0, 12, 0), INVALID);
        Check.same("climbs(-1, 3, 1)", x.climbs(-1, 3, 1), INVALID);
        x = stairs(6, 10, 15, 7, 1, 21);
        paths(x, 0, 2, 2);
        paths(x, 0, 3, 0);
        paths(x, 2, 5, 0);
        paths(x, 3, 5, 1);
        paths(x, 4, 4, 1);
        x.set(1, 3);
        paths(x, 0, 5, 2);
        Check.same("climbs without steps", new StairKin().climbs(0, 0, 0), INVALID);
    }

    private static void climb() {
        Check.part("promise 20");
        StairKin x = stairs(12, 90, 4, 6, 10, 7);
        Check.same("climb(1, 0, 0, 0)", x.climb(1, 0, 0, 0), INVALID);
        Check.same("climb(0, 1, 3, 0)", x.climb(0, 1, 3, 0), INVALID);
        Check.same("climb(0, 1, -1, 0)", x.climb(0, 1, -1, 0), INVALID);
        Check.same("climb(0, 1, 0, 3)", x.climb(0, 1, 0, 3), INVALID);
        Check.same("climb(0, 1, 0, -1)", x.climb(0, 1, 0, -1), INVALID);
        Check.same("climb(0, 6, 0, 0)", x.climb(0, 6, 0, 0), INVALID);
        Check.same("climb(-1, 0, 0, 0)", x.climb(-1, 0, 0, 0), INVALID);
        Check.same("climb(0, 5, 0, 0)", x.climb(0, 5, 0, 0), NOT_FOUND);
        Check.same("climb(0, 5, 3, 0)", x.climb(0, 5, 3, 0), INVALID);
        int[][] due = {{5, 122, 2}, {3, 26, 2}, {5, 122, 2}};
        for (int kind = 0; kind < 3; kind++) {
            for (int what = 0; what < 3; what++) {
                Check.same("climb(0, 4, " + kind + ", " + what + ")", x.climb(0, 4, kind, what), due[kind][what]);
            }
        }
        Check.same("climb(3, 3, 2, 0)", x.climb(3, 3, 2, 0), 1);
        Check.same("climb(3, 3, 0, 1)", x.climb(3, 3, 0, 1), 6);
        Check.same("climb(3, 3, 1, 2)", x.climb(3, 3, 1, 2), 6);
        x.set(1, 4);
        Check.same("climb(0, 4, 1, 0) by stride 4", x.climb(0, 4, 1, 0), 2);
        Check.same("climb(0, 4, 1, 1)", x.climb(0, 4, 1, 1), 22);
        Check.same("climb(0, 3, 1, 2)", x.climb(0, 3, 1, 2), 6);
        x = stairs(30, 9999, 30, 15, 30);
        x.set(1, 4);
        Check.same("climb(0, 4, 2, 1)", x.climb(0, 4, 2, 1), 10104);
        Check.same("climb(0, 4, 2, 2)", x.climb(0, 4, 2, 2), 3);
        Check.same("climb(2, 4, 2, 2)", x.climb(2, 4, 2, 2), 15);
        Check.same("climb without steps", new StairKin().climb(0, 0, 0, 0), INVALID);
    }

    private static void climbTies() {
        Check.part("promises 20 and 21, several climbs");
        StairKin x = stairs(6, 6, 6, 6);
        x.set(1, 2);
        path("shortest, the lowest second step", x, 0, 3, 1, 0, 1, 3);
        path("longest", x, 0, 3, 0, 0, 1, 2, 3);
        x = stairs(30, 5, 3, 10, 2, 30);
        path("longest, of several", x, 0, 5, 0, 0, 1, 3, 4, 5);
        x = stairs(30, 2, 3, 4, 9, 6);
        path("longest, the lowest second step", x, 0, 5, 0, 0, 1, 3, 5);
        path("shortest, the lowest second step", x, 0, 5, 1, 0, 1, 3, 5);
        path("heaviest, not the lowest second step", x, 0, 5, 2, 0, 2, 4, 5);
        x = stairs(30, 4, 3, 6, 7, 6);
        path("heaviest", x, 0, 5, 2, 0, 1, 3, 5);
        x = stairs(30, 4, 3, 8, 9, 6);
        path("heaviest, the same sum: the lowest second step", x, 0, 5, 2, 0, 1, 3, 5);
        x = stairs(6, 6, 5, 10, 15, 30);
        x.set(1, 4);
        path("longest", x, 0, 5, 0, 0, 1, 3, 4, 5);
        path("shortest, the lowest second step", x, 0, 5, 1, 0, 1, 5);
        path("heaviest", x, 0, 5, 2, 0, 1, 3, 4, 5);
        x = stairs(2, 2, 2, 2, 2, 2);
        x.set(1, 3);
        path("shortest, the lowest second step, then the third", x, 0, 5, 1, 0, 2, 5);
    }

    private static void climbAt() {
        Check.part("promise 21");
        StairKin x = stairs(12, 90, 4, 6, 10, 7);
        path("longest", x, 0, 4, 0, 0, 1, 2, 3, 4);
        path("shortest", x, 0, 4, 1, 0, 2, 4);
        path("one step", x, 5, 5, 2, 5);
        Check.same("climbAt(0, 4, 0, -1)", x.climbAt(0, 4, 0, -1), INVALID);
        Check.same("climbAt(0, 4, 0, least)", x.climbAt(0, 4, 0, LEAST), INVALID);
        Check.same("climbAt(0, 4, 0, most)", x.climbAt(0, 4, 0, MOST), NOT_FOUND);
        Check.same("climbAt(0, 5, 0, 0)", x.climbAt(0, 5, 0, 0), NOT_FOUND);
        Check.same("climbAt(0, 5, 0, -1)", x.climbAt(0, 5, 0, -1), INVALID);
        Check.same("climbAt(4, 0, 0, 0)", x.climbAt(4, 0, 0, 0), INVALID);
        Check.same("climbAt(0, 6, 0, 0)", x.climbAt(0, 6, 0, 0), INVALID);
        Check.same("climbAt(0, 4, 3, 0)", x.climbAt(0, 4, 3, 0), INVALID);
        Check.same("climbAt(0, 4, -1, 0)", x.climbAt(0, 4, -1, 0), INVALID);
    }

    private static void crown() {
        Check.part("promise 22");
        Check.same("one step", stairs(1).crown(), 0);
        Check.same("most kin", stairs(7, 9, 6, 4).crown(), 2);
        Check.same("the greatest number", stairs(4, 6, 8).crown(), 2);
        Check.same("the lowest step", stairs(4, 8, 6, 8).crown(), 1);
        Check.same("no kin", stairs(7, 11, 5, 13).crown(), 3);
        Check.same("no kin at all", stairs(7, 1, 13, 5).crown(), 2);
        StairKin x = stairs(1, 9, 5);
        Check.same("by common divisors", x.crown(), 1);
        x.set(0, 1);
        Check.same("by multiples", x.crown(), 0);
        x.take(2);
        x.take(1);
        x.take(0);
        Check.same("without steps", x.crown(), NOT_FOUND);
    }

    private static void account(StairKin x, int prime, int... due) {
        for (int what = 0; what < due.length; what++) {
            Check.same("prime(" + prime + ", " + what + ")", x.prime(prime, what), due[what]);
        }
    }

    private static void prime() {
        Check.part("promise 23");
        StairKin x = stairs(8, 12, 35, 1);
        account(x, 2, 0, 5, 5, 3, 2);
        account(x, 3, 0, 1, 1, 1, 1);
        account(x, 11, 0, 0, 0, 0, 0);
        account(x, 9973, 0, 0, 0, 0, 0);
        x.strike(0, 2);
        account(x, 2, 1, 5, 4, 2, 2);
        x.share(0);
        account(x, 2, 1, 5, 4, 2, 2);
        x.divide(0);
        account(x, 2, 3, 5, 2, 2, 1);
        Check.same("take(0)", x.take(0), 4);
        account(x, 2, 3, 3, 0, 0, 0);
        Check.same("take(0)", x.take(0), 3);
        account(x, 3, 0, 0, 0, 0, 0);
        x.add(0, 8192);
        account(x, 2, 3, 16, 13, 13, 1);
        x.add(0, 2);
        account(x, 2, 3, 17, 14, 13, 2);
        account(x, 5, 0, 1, 1, 1, 1);
        x.strike(2, 7);
        x.strike(2, 5);
        account(x, 5, 1, 1, 0, 0, 0);
        for (int wrong : new int[] {0, 1, -2, 4, 9, 9409, 9999, 10000, 10007, MOST, LEAST}) {
            Check.same("prime(" + wrong + ", 0)", x.prime(wrong, 0), INVALID);
        }
        Check.same("prime(2, -1)", x.prime(2, -1), INVALID);
        Check.same("prime(2, 5)", x.prime(2, 5), INVALID);
        int primes = 0;
        for (int number = 2; number <= 9999; number++) {
            // An object answers 512 calls, no more.
            x = number % 500 == 2 ? new StairKin() : x;
            primes += x.prime(number, 4) == INVALID ? 0 : 1;
        }
        Check.same("primes below 10000", primes, 1229);
    }

    private static void manyPrimes() {
        Check.part("promise 23, many primes");
        StairKin x = new StairKin();
        int[] primes = new int[60];
        int many = 0;
        for (int number = 9999; many < primes.length; number -= 2) {
            if (java.math.BigInteger.valueOf(number).isProbablePrime(50)) {
                primes[many] = number;
                many++;
            }
        }
        for (int place = 0; place < many; place++) {
            x.add(0, primes[place]);
            x.save();
            Check.same("strike(0, " + primes[place] + ")", x.strike(0, primes[place]), 1);
        }
        Check.same("chips", x.count(5), many);
        Check.same("different primes of chips", x.count(6), many);
        Check.same("broke", x.count(7), many);
        Check.same("bestStrike()", x.bestStrike(), NOT_FOUND);
        for (int place = 0; place < many; place++) {
            account(x, primes[place], 1, 1, 0, 0, 0);
        }
        Check.same("restore()", x.restore(), 1);
        account(x, primes[many - 1], 0, 1, 1, 1, 1);
        account(x, primes[many - 2], 1, 1, 0);
        Check.same("ifDone(2, 0, 3)", x.ifDone(2, 0, 3), 0);
        Check.same("undo()", x.undo(), 3);
        account(x, primes[many - 1], 1, 1, 0);
    }

    private static void count() {
        Check.part("promise 24");
        StairKin x = stairs(12, 1, 18, 35, 1, 7, 11);
        x.strike(0, 2);
        x.strike(2, 3);
        x.strike(6, 11);
        x.set(1, 3);
        x.append('s');
        int[] due = {6, 2, 4, 2, 0, 3, 3, 1, 4, 2, 0, 3, 1, 4};
        for (int what = 0; what < due.length; what++) {
            Check.same("count(" + what + ")", x.count(what), due[what]);
        }
        x.strike(0, 2);
        Check.same("chips", x.count(5), 4);
        Check.same("different primes of chips", x.count(6), 3);
        Check.same("different primes", x.count(8), 4);
        Check.same("count(-1)", x.count(-1), INVALID);
        Check.same("count(14)", x.count(14), INVALID);
        Check.same("count(most)", x.count(MOST), INVALID);
        x.set(0, 2);
        Check.same("the rule", x.count(10), 2);
        Check.same("one step is settled", stairs(5).count(4), 1);
        Check.same("settled", stairs(1, 5, 5, 10).count(4), 1);
        Check.same("not settled", stairs(1, 5, 2, 10).count(4), 0);
        Check.same("not settled at the top", stairs(1, 5, 10, 5).count(4), 0);
    }

    private static void mean() {
        Check.part("promise 25");
        Check.same("without steps", new StairKin().mean(), 0.0);
        Check.same("one step", stairs(6).mean(), 0.0);
        Check.same("two of three", stairs(6, 4, 5).mean(), 2.0 / 3);
        Check.same("all of three", stairs(6, 4, 2).mean(), 2.0);
        StairKin x = stairs(2, 4, 3, 9, 6, 1, 1);
        Check.same("two families", x.mean(), 12.0 / 7);
        x.set(0, 2);
        Check.same("by multiples", x.mean(), 10.0 / 7);
    }

    private static void wouldBe(String call, StairKin x, int kind, int step, int... due) {
        for (int what = 0; what < due.length; what++) {
            Check.same(call + ": ifDone(" + kind + ", " + step + ", " + what + ")", x.ifDone(kind, step, what), due[what]);
        }
    }

    private static void ifDone() {
        Check.part("promise 26");
        StairKin x = stairs(4, 6, 9, 7);
        wouldBe("share", x, 0, 0, 2, 2, 3, 4);
        wouldBe("share", x, 0, 2, 2, 2, 3, 4);
        Check.same("divide", x.ifDone(1, 0, 0), NOT_POSSIBLE);
        wouldBe("strike", x, 2, 1, 1, 3, 2, 4);
        wouldBe("strike breaks", x, 2, 3, 2, 1, 3, 3);
        numbers("nothing is changed", x, 4, 6, 9, 7);
        Check.same("chips", x.count(5), 0);
        Check.same("broke", x.count(7), 0);
        Check.same("history", x.count(13), 4);
        Check.same("ifDone(3, 0, 0)", x.ifDone(3, 0, 0), INVALID);
        Check.same("ifDone(-1, 0, 0)", x.ifDone(-1, 0, 0), INVALID);
        Check.same("ifDone(0, 0, 4)", x.ifDone(0, 0, 4), INVALID);
        Check.same("ifDone(0, 0, -1)", x.ifDone(0, 0, -1), INVALID);
        Check.same("ifDone(0, 3, 0)", x.ifDone(0, 3, 0), INVALID);
        Check.same("ifDone(1, 3, 0)", x.ifDone(1, 3, 0), INVALID);
        Check.same("ifDone(2, 4, 0)", x.ifDone(2, 4, 0), INVALID);
        Check.same("ifDone(2, -1, 0)", x.ifDone(2, -1, 0), INVALID);
        Check.same("ifDone(1, 0, 4): the argument first", x.ifDone(1, 0, 4), INVALID);
        x = stairs(3, 6, 1, 9999, 9998);
        wouldBe("divide", x, 1, 0, 2, 3, 1, 5);
        wouldBe("divide by 1", x, 1, 2, 4, 2, 3, 5);
        Check.same("strike of 1", x.ifDone(2, 2, 3), NOT_POSSIBLE);
        Check.same("strike of 1, wrong argument", x.ifDone(2, 2, 4), INVALID);
        Check.same("share above the limit", x.ifDone(0, 3, 0), LIMIT);
        Check.same("share above the limit, wrong argument", x.ifDone(0, 3, -1), INVALID);
        wouldBe("the last one breaks", stairs(2), 2, 0, 0, 0, 0, 0);
        x = stairs(5, 5, 15);
        wouldBe("divide breaks", x, 1, 0, 1, 1, 2, 2);
        x.set(0, 2);
        wouldBe("by multiples", x, 2, 2, 1, 2, 2, 3);
        Check.same("without steps", new StairKin().ifDone(0, 0, 0), INVALID);
    }

    private static void most(String call, StairKin x, int... due) {
        for (int what = 0; what < due.length; what++) {
            Check.same(call + ": longest(" + what + ")", x.longest(what), due[what]);
        }
    }

    private static void longest() {
        Check.part("promise 27");
        most("one step", stairs(1), 1, 0, 0);
        most("no kin", stairs(1, 7, 1, 7), 2, 1, 3);
        most("no kin near", stairs(2, 3, 5, 7, 2), 1, 0, 0);
        StairKin x = stairs(7, 6, 4, 9, 8, 3);
        most("of several the lowest", x, 3, 1, 4);
        x.set(1, 4);
        most("by stride 4", x, 3, 1, 4);
        x = stairs(5, 6, 4, 3, 9, 8, 5);
        most("the lowest end", x, 3, 1, 4);
        x = stairs(10, 5, 2, 25, 2, 15, 3);
        x.set(1, 4);
        most("the lowest end is not that of the first step", x, 5, 0, 6);
        x = stairs(6, 3, 2, 4, 9);
        x.set(1, 3);
        most("two of one length from one step", x, 3, 0, 3);
        Check.same("longest(-1)", x.longest(-1), INVALID);
        Check.same("longest(3)", x.longest(3), INVALID);
        Check.same("longest(3) without steps", new StairKin().longest(3), INVALID);
        Check.same("longest(1) without steps", new StairKin().longest(1), NOT_FOUND);
    }

    private static void bestStrike() {
        Check.part("promise 28");
        Check.same("without steps", new StairKin().bestStrike(), NOT_FOUND);
        Check.same("with ones", stairs(1, 1).bestStrike(), NOT_FOUND);
        Check.same("of several the least", stairs(1, 15, 35).bestStrike(), 10003);
        Check.same("the least prime", stairs(6, 6).bestStrike(), 2);
        Check.same("not by the common one", stairs(2, 6).bestStrike(), 10003);
        Check.same("the greatest prime", stairs(9973).bestStrike(), 9973);
        StairKin x = stairs(6, 2, 4);
        x.set(0, 2);
        Check.same("by multiples", x.bestStrike(), 3);
        x = stairs(2, 3, 10, 15, 1, 7);
        x.set(0, 1);
        Check.same("the highest step", stairs(1, 2 * 3, 1, 3 * 5, 5 * 2 * 11).bestStrike(), 40011);
        numbers("nothing is changed", x, 2, 3, 10, 15, 1, 7);
        Check.same("the history stays", x.count(13), 4);
        Check.same("no chips", x.count(5), 0);
    }

    private static void undo() {
        Check.part("promise 29");
        StairKin x = new StairKin();
        Check.same("undo() of nothing", x.undo(), NOT_POSSIBLE);
        x.add(0, 6);
        x.add(1, 4);
        x.share(0);
        x.strike(1, 3);
        x.set(0, 2);
        x.set(1, 4);
        Check.same("history", x.count(13), 4);
        Check.same("undo() of set", x.undo(), 3);
        Check.same("stride", x.count(11), 2);
        Check.same("undo() of set", x.undo(), 2);
        Check.same("rule", x.count(10), 0);
        Check.same("undo() of strike", x.undo(), 1);
        numbers("undo()", x, 2, 12);
        Check.same("chips", x.count(5), 0);
        Check.same("undo() of share", x.undo(), 0);
        numbers("undo()", x, 6, 4);
        Check.same("the oldest states are dropped", x.undo(), NOT_POSSIBLE);
        Check.same("add behind undo()", x.add(2, 5), 3);
        Check.same("history", x.count(13), 1);
        Check.same("undo() of add", x.undo(), 0);
        Check.same("came of 5", x.prime(5, 1), 0);
        Check.same("came of 2", x.prime(2, 1), 3);
    }

    private static void undoKeeps() {
        Check.part("promise 29, what it undoes and what not");
        StairKin x = stairs(7, 7);
        write(x, "12");
        x.save();
        x.divide(0);
        Check.same("broke", x.count(7), 1);
        Check.same("undo()", x.undo(), 2);
        numbers("undo() of divide", x, 7, 7);
        Check.same("broke", x.count(7), 0);
        Check.same("chips", x.count(5), 0);
        Check.same("the pad stays", x.count(12), 2);
        x.read();
        Check.same("undo() of read", x.undo(), 2);
        Check.same("the pad is empty still", x.count(12), 0);
        x.take(0);
        Check.same("came", x.prime(7, 1), 1);
        Check.same("undo() of take", x.undo(), 2);
        Check.same("came", x.prime(7, 1), 2);
        x.settle();
        Check.same("undo() of settle that did nothing", x.undo(), 2);
        x.add(0, 3);
        x.save();
        Check.same("undo() of add", x.undo(), 2);
        Check.same("the snapshot stays", x.restore(), 3);
        Check.same("undo() of restore", x.undo(), 2);
        numbers("undo() of restore", x, 7, 7);
        deeds(x, "d0;s0");
        Check.same("broke", x.count(7), 1);
        Check.same("undo() of carryOut", x.undo(), 2);
        numbers("undo() of carryOut", x, 7, 7);
        Check.same("why() stays", x.why(1), 1);
    }

    private static void save() {
        Check.part("promise 30");
        StairKin x = new StairKin();
        Check.same("save() without steps", x.save(), 0);
        Check.same("no change", x.count(13), 0);
        x.add(0, 10);
        x.add(1, 14);
        Check.same("restore() of no steps", x.restore(), 0);
        Check.same("undo()", x.undo(), 2);
        Check.same("save()", x.save(), 2);
        Check.same("no change", x.count(13), 2);
        x.take(0);
        Check.same("restore()", x.restore(), 2);
        numbers("in place of the one that was", x, 10, 14);
    }

    private static void restore() {
        Check.part("promise 31");
        StairKin x = stairs(30, 8);
        Check.same("restore() of none", x.restore(), NOT_POSSIBLE);
        Check.same("no change", x.count(13), 2);
        x.strike(1, 2);
        x.set(0, 1);
        x.save();
        x.set(0, 2);
        x.set(1, 4);
        x.add(0, 7);
        x.strike(0, 7);
        x.strike(0, 5);
        write(x, "s0");
        Check.same("restore()", x.restore(), 2);
        numbers("restore()", x, 30, 4);
        Check.same("chips", x.count(5), 1);
        Check.same("chips of 2", x.prime(2, 0), 1);
        Check.same("came of 7", x.prime(7, 1), 0);
        Check.same("broke", x.count(7), 0);
        Check.same("rule", x.count(10), 1);
        Check.same("stride", x.count(11), 2);
        Check.same("the pad stays", x.count(12), 2);
        Check.same("it is a change", x.count(13), 4);
        x.take(0);
        Check.same("the snapshot stays", x.restore(), 2);
        numbers("restore()", x, 30, 4);
        Check.same("undo() of restore", x.undo(), 3);
        numbers("undo()", x, 4);
        x.add(0, 9);
        Check.same("the snapshot is not changed by what follows", x.restore(), 2);
        numbers("restore()", x, 30, 4);
    }

    private static void errorsChangeNothing() {
        Check.part("errors change nothing");
        StairKin x = stairs(12, 18, 9973, 9967);
        write(x, "s0;x");
        x.add(5, 1);
        x.take(4);
        x.share(2);
        x.divide(0);
        x.strike(0, 5);
        x.settle();
        x.set(1, 0);
        x.append(0);
        x.read();
        x.carryOut();
        x.restore();
        numbers("errors", x, 12, 18, 9973, 9967);
        Check.same("history", x.count(13), 4);
        Check.same("pad", x.count(12), 4);
        Check.same("came of 2", x.prime(2, 1), 3);
        Check.same("chips", x.count(5), 0);
        Check.same("why(0)", x.why(0), NOT_FOUND);
    }
}
