/** Promises 1 to 8, sentence by sentence: a new object, add, take, share, divide, strike, settle, set. */
final class DeedCases extends Cases {
    /** The least numbers that are no primes, squares of primes, products, and primes outside the range. */
    private static final int[] NO_PRIMES =
            {-9973, -2, -1, 0, 1, 4, 6, 8, 9, 15, 25, 49, 2021, 9409, 9797, 9991, 9998, 9999, 10000, 10007, 10009, 65537};

    private DeedCases() {
    }

    static void all() {
        newObject();
        add();
        addErrors();
        take();
        share();
        shareErrors();
        divide();
        divideErrors();
        strike();
        strikeErrors();
        primesAmongAll();
        settle();
        settleErrors();
        set();
    }

    private static void newObject() {
        Sentences.begin("Promise 1", "Creates stairs without steps.");
        StairKin x = new StairKin();
        Check.same("count(0)", x.count(0), 0);
        int[] due = {0, 0, 0, 0, 1, 0, 0, 0, 0, 0, 0, 2, 0, 0};
        for (int what = 0; what < due.length; what++) {
            Check.same("count(" + what + ")", x.count(what), due[what]);
        }
        Check.same("undo()", x.undo(), NOT_POSSIBLE);
        Check.same("restore()", x.restore(), NOT_POSSIBLE);
        Check.same("why(0)", x.why(0), NOT_FOUND);
        Check.same("came of 2", x.prime(2, 1), 0);
        StairKin other = rich();
        Check.same("beside another one", x.count(0) + x.count(5) + x.count(12) + x.count(13), 0);
        x.add(0, 5);
        Check.same("the other one", other.count(0), 6);
    }

    private static void add() {
        Sentences.begin("Promise 2", "Puts a step in.");
        StairKin x = stairs(4);
        x.add(1, 9);
        numbers("put in", x, 4, 9);
        Check.same("came of 3", x.prime(3, 1), 2);
        Check.same("a change", x.count(13), 2);
        Sentences.begin("Promise 2", "`place`: 0 to the number of steps: its number then");
        range("place, of none", 0, 0, () -> new StairKin(), (y, value) -> y.add(value, 5));
        range("place, of six", 0, 6, () -> rich(), (y, value) -> y.add(value, 5));
        range("place, of eleven", 0, 11, () -> alike(11, 6), (y, value) -> y.add(value, 5));
        for (int place = 0; place <= 11; place++) {
            x = alike(11, 6);
            x.add(place, 35);
            for (int step = 0; step <= 11; step++) {
                Check.same("step " + step + " with 35 at " + place, x.step(step, 0), step == place ? 35 : 6);
            }
        }
        Sentences.begin("Promise 2", "`number`: 1 to 9999");
        range("number", 1, 9999, () -> new StairKin(), (y, value) -> y.add(0, value));
        range("number", 1, 9999, () -> rich(), (y, value) -> y.add(6, value));
        Check.same("number 1", stairs(1).step(0, 0), 1);
        Check.same("number 9999", stairs(9999).step(0, 0), 9999);
        Sentences.begin("Promise 2", "Returns how many steps there are then");
        x = new StairKin();
        for (int steps = 1; steps <= 12; steps++) {
            Check.same("add", x.add(steps / 2, 7), steps);
            Check.same("count(0)", x.count(0), steps);
        }
    }

    private static void addErrors() {
        Sentences.begin("Promise 2", "INVALID_ARGUMENT");
        refused("add(1, 5) to none", INVALID, () -> new StairKin(), x -> x.add(1, 5));
        refused("add(-1, 5)", INVALID, () -> rich(), x -> x.add(-1, 5));
        refused("add(7, 5) to six", INVALID, () -> rich(), x -> x.add(7, 5));
        refused("add(3, 0)", INVALID, () -> rich(), x -> x.add(3, 0));
        refused("add(3, 10000)", INVALID, () -> rich(), x -> x.add(3, 10000));
        refused("add(13, 5) to twelve", INVALID, () -> full(), x -> x.add(13, 5));
        refused("add(-1, 5) to twelve", INVALID, () -> full(), x -> x.add(-1, 5));
        refused("add(0, 0) to twelve", INVALID, () -> full(), x -> x.add(0, 0));
        refused("add(12, 10000) to twelve", INVALID, () -> full(), x -> x.add(12, 10000));
        Sentences.begin("Promise 2", "LIMIT_REACHED if there are 12.");
        for (int place = 0; place <= 12; place++) {
            int at = place;
            refused("add(" + place + ", 5) to twelve", LIMIT, () -> full(), x -> x.add(at, 5));
        }
        Check.same("add to eleven", alike(11, 9999).add(0, 9999), 12);
    }

    private static void take() {
        Sentences.begin("Promise 3", "Takes a step off.");
        StairKin x = stairs(4, 6, 9);
        x.take(1);
        numbers("taken off", x, 4, 9);
        Check.same("none broke", x.count(7), 0);
        Check.same("no chips", x.count(5), 0);
        Check.same("a change", x.count(13), 4);
        Sentences.begin("Promise 3", "`step`: its number");
        range("take of six", 0, 5, () -> rich(), (y, value) -> y.take(value));
        range("take of twelve", 0, 11, () -> full(), (y, value) -> y.take(value));
        range("take of one", 0, 0, () -> stairs(1), (y, value) -> y.take(value));
        for (int step = 0; step < 12; step++) {
            x = stairs(101, 102, 103, 104, 105, 106, 107, 108, 109, 110, 111, 112);
            Check.same("take(" + step + ")", x.take(step), 101 + step);
            Check.same("steps", x.count(0), 11);
            for (int other = 0; other < 11; other++) {
                Check.same("step " + other, x.step(other, 0), other < step ? 101 + other : 102 + other);
            }
        }
        Sentences.begin("Promise 3", "Returns the number that it bears");
        x = stairs(1, 9999, 8, 12);
        x.share(2);
        Check.same("take(3) behind share(2)", x.take(3), 24);
        Check.same("take(1)", x.take(1), 9999);
        Check.same("take(0)", x.take(0), 1);
        Check.same("take(0)", x.take(0), 4);
        Sentences.begin("Promise 3", "INVALID_ARGUMENT");
        refused("take(0) of none", INVALID, () -> new StairKin(), y -> y.take(0));
        refused("take(-1)", INVALID, () -> rich(), y -> y.take(-1));
        refused("take(6) of six", INVALID, () -> rich(), y -> y.take(6));
        refused("take(12) of twelve", INVALID, () -> full(), y -> y.take(12));
    }

    private static void share() {
        Sentences.begin("Promise 4", "`int share(int step)`: Shares.");
        StairKin x = stairs(12, 18);
        x.share(0);
        numbers("shared", x, 6, 36);
        Check.same("a change", x.count(13), 3);
        Check.same("no chips", x.count(5), 0);
        Sentences.begin("Promise 4", "`step`: a step but the highest one");
        range("share of two", 0, 0, () -> stairs(4, 6), (y, value) -> y.share(value));
        range("share of three", 0, 1, () -> stairs(4, 6, 9), (y, value) -> y.share(value));
        range("share of six", 0, 4, () -> rich(), (y, value) -> y.share(value));
        range("share of twelve", 0, 10, () -> full(), (y, value) -> y.share(value));
        Sentences.begin("Promise 4", "Returns the greatest common divisor");
        int[][] due = {{1, 1, 1}, {1, 9999, 1}, {9999, 1, 1}, {9999, 9999, 9999}, {8, 12, 4}, {12, 8, 4}, {3333, 9999, 3333},
            {9999, 3333, 3333}, {7, 5, 1}, {9409, 97, 97}, {4999, 9998, 4999}};
        for (int[] row : due) {
            x = stairs(row[0], row[1]);
            Check.same("share of " + row[0] + " and " + row[1], x.share(0), row[2]);
            numbers("share of " + row[0] + " and " + row[1], x, row[2], row[0] / row[2] * row[1]);
        }
    }

    private static void shareErrors() {
        Sentences.begin("Promise 4", "INVALID_ARGUMENT");
        refused("share(0) of none", INVALID, () -> new StairKin(), x -> x.share(0));
        refused("share(0) of one", INVALID, () -> stairs(6), x -> x.share(0));
        refused("share(-1)", INVALID, () -> rich(), x -> x.share(-1));
        refused("share(5) of six", INVALID, () -> rich(), x -> x.share(5));
        refused("share(11) of twelve", INVALID, () -> full(), x -> x.share(11));
        Sentences.begin("Promise 4", "LIMIT_REACHED if the least common multiple is above 9999.");
        Check.same("9999", stairs(99, 101).share(0), 1);
        Check.same("9998", stairs(2, 4999).share(0), 1);
        refused("10000", LIMIT, () -> stairs(16, 625), x -> x.share(0));
        refused("10001", LIMIT, () -> stairs(73, 137), x -> x.share(0));
        refused("10002, with 2 in common", LIMIT, () -> stairs(6, 3334), x -> x.share(0));
        refused("9999 and 9998", LIMIT, () -> stairs(1, 9999, 9998, 2), x -> x.share(1));
        refused("9973 and 14", LIMIT, () -> rich(), x -> x.share(4));
        refused("16 and 625 of twelve", LIMIT, () -> full(), x -> x.share(9));
    }

    private static void divide() {
        Sentences.begin("Promise 5", "`int divide(int step)`: Divides.");
        StairKin x = stairs(4, 12);
        x.divide(0);
        numbers("divided", x, 4, 3);
        Check.same("chips of 2", x.prime(2, 0), 2);
        Check.same("a change", x.count(13), 3);
        Sentences.begin("Promise 5", "`step`: a step but the highest one");
        range("divide of two", 0, 0, () -> stairs(3, 6), (y, value) -> y.divide(value));
        range("divide of three", 0, 1, () -> stairs(3, 6, 6), (y, value) -> y.divide(value));
        range("divide of six", 0, 4, () -> rich(), (y, value) -> y.divide(value));
        range("divide of twelve", 0, 10, () -> alike(12, 2), (y, value) -> y.divide(value));
        Sentences.begin("Promise 5", "Returns the quotient");
        int[][] due = {{1, 9999, 9999}, {1, 2, 2}, {3333, 9999, 3}, {2, 9998, 4999}, {97, 9409, 97}, {2, 8192, 4096}};
        for (int[] row : due) {
            x = stairs(row[0], row[1]);
            Check.same("divide of " + row[1] + " by " + row[0], x.divide(0), row[2]);
            numbers("divide of " + row[1] + " by " + row[0], x, row[0], row[2]);
        }
        for (int number : new int[] {1, 2, 9999}) {
            x = stairs(number, number);
            Check.same("divide of " + number + " by itself", x.divide(0), 1);
            numbers("divide of " + number + " by itself", x, number);
            Check.same("broke", x.count(7), 1);
        }
    }

    private static void divideErrors() {
        Sentences.begin("Promise 5", "INVALID_ARGUMENT");
        refused("divide(0) of none", INVALID, () -> new StairKin(), x -> x.divide(0));
        refused("divide(0) of one", INVALID, () -> stairs(6), x -> x.divide(0));
        refused("divide(-1)", INVALID, () -> rich(), x -> x.divide(-1));
        refused("divide(5) of six", INVALID, () -> rich(), x -> x.divide(5));
        refused("divide(11) of twelve", INVALID, () -> alike(12, 2), x -> x.divide(11));
        Sentences.begin("Promise 5", "NOT_POSSIBLE if the number of the step above is no multiple of that of the step.");
        refused("3 by 6", NOT_POSSIBLE, () -> rich(), x -> x.divide(0));
        refused("1 by 35", NOT_POSSIBLE, () -> rich(), x -> x.divide(2));
        refused("9973 by 14", NOT_POSSIBLE, () -> stairs(14, 9973), x -> x.divide(0));
        refused("6 by 4", NOT_POSSIBLE, () -> stairs(4, 6), x -> x.divide(0));
        refused("9998 by 9999", NOT_POSSIBLE, () -> stairs(9999, 9998), x -> x.divide(0));
        refused("the highest one of twelve", NOT_POSSIBLE, () -> full(), x -> x.divide(10));
    }

    private static void strike() {
        Sentences.begin("Promise 6", "Strikes a step.");
        StairKin x = stairs(12, 12);
        x.strike(1, 2);
        numbers("struck", x, 12, 6);
        Check.same("chips of 2", x.prime(2, 0), 1);
        Check.same("a change", x.count(13), 3);
        Sentences.begin("Promise 6", "`step`: a step");
        range("strike of one", 0, 0, () -> stairs(2), (y, value) -> y.strike(value, 2));
        range("strike of six", 0, 5, () -> rich(), (y, value) -> y.strike(value, 2));
        range("strike of twelve", 0, 11, () -> full(), (y, value) -> y.strike(value, 2));
        Sentences.begin("Promise 6", "`prime`: 2 to 9999, a prime");
        range("prime", 2, 9973, () -> stairs(2, 9973), (y, value) -> y.strike(1, value));
        Check.same("by 2", stairs(9998).strike(0, 2), 4999);
        Check.same("by 9973", stairs(9973).strike(0, 9973), 1);
        Check.same("by 97", stairs(9409).strike(0, 97), 97);
        Sentences.begin("Promise 6", "Returns the number that it bears then, 1 if it breaks");
        x = stairs(8192, 7);
        for (int due = 4096; due >= 2; due /= 2) {
            Check.same("strike", x.strike(0, 2), due);
            Check.same("it bears then", x.step(0, 0), due);
        }
        Check.same("it breaks", x.strike(0, 2), 1);
        numbers("it breaks", x, 7);
        Check.same("the other one breaks", x.strike(0, 7), 1);
        numbers("the other one breaks", x);
    }

    private static void strikeErrors() {
        Sentences.begin("Promise 6", "INVALID_ARGUMENT (also if it is no prime)");
        refused("strike(0, 2) of none", INVALID, () -> new StairKin(), x -> x.strike(0, 2));
        refused("strike(-1, 2)", INVALID, () -> rich(), x -> x.strike(-1, 2));
        refused("strike(6, 2) of six", INVALID, () -> rich(), x -> x.strike(6, 2));
        refused("strike(12, 2) of twelve", INVALID, () -> full(), x -> x.strike(12, 2));
        for (int prime : NO_PRIMES) {
            refused("strike(0, " + prime + ")", INVALID, () -> stairs(9999, 9409), x -> x.strike(0, prime));
        }
        refused("by 6, which divides it", INVALID, () -> rich(), x -> x.strike(0, 6));
        refused("by 1, which divides it", INVALID, () -> rich(), x -> x.strike(0, 1));
        refused("by 35, which divides it", INVALID, () -> rich(), x -> x.strike(2, 35));
        Sentences.begin("Promise 6", "NOT_POSSIBLE if the prime does not divide its number.");
        refused("6 by 5", NOT_POSSIBLE, () -> rich(), x -> x.strike(0, 5));
        refused("1 by 2", NOT_POSSIBLE, () -> rich(), x -> x.strike(3, 2));
        refused("6 by 9973", NOT_POSSIBLE, () -> rich(), x -> x.strike(0, 9973));
        refused("9973 by 2", NOT_POSSIBLE, () -> rich(), x -> x.strike(4, 2));
        refused("8 by 3", NOT_POSSIBLE, () -> full(), x -> x.strike(11, 3));
    }

    /** Each number of the range is struck by itself: this is its end, if it is a prime, and refused otherwise. */
    private static void primesAmongAll() {
        Sentences.begin("Promise 6", "`prime`: 2 to 9999, a prime");
        boolean[] divided = new boolean[10000];
        StairKin x = new StairKin();
        for (int number = 2; number <= 9999; number++) {
            if (number % 100 == 0) {
                x = new StairKin();
            }
            x.add(0, number);
            Check.same("strike of " + number + " by itself", x.strike(0, number), divided[number] ? INVALID : 1);
            if (divided[number]) {
                x.take(0);
            }
            for (int multiple = 2 * number; multiple <= 9999; multiple += number) {
                divided[multiple] = true;
            }
        }
    }

    private static void settle() {
        Sentences.begin("Promise 7", "Shares in rounds, until the stairs are settled.");
        StairKin x = stairs(8, 4, 2, 1);
        x.settle();
        numbers("settled", x, 1, 2, 4, 8);
        Check.same("count(4)", x.count(4), 1);
        Check.same("one change", x.count(13), 4);
        x.undo();
        numbers("undo()", x, 8, 4, 2, 1);
        x = stairs(30, 42, 70, 105);
        x.settle();
        numbers("settled", x, 1, 210, 210, 210);
        Check.same("none broke", x.count(7), 0);
        Check.same("no chips", x.count(5), 0);
        Sentences.begin("Promise 7", "Returns how many rounds there were (0 if they are settled already)");
        int[][] rounds = {{0}, {0, 5}, {0, 1, 1}, {0, 3, 3, 9999}, {1, 6, 4}, {1, 4, 1, 2}, {2, 4, 2, 1}, {2, 2, 4, 1},
            {3, 8, 4, 2, 1}, {3, 2, 4, 8, 1}, {1, 9, 1, 3, 3}, {11, 2048, 1024, 512, 256, 128, 64, 32, 16, 8, 4, 2, 1},
            {11, 2, 2, 2, 2, 2, 2, 2, 2, 2, 2, 2, 1}, {1, 2, 1, 1, 1, 1, 1, 1, 1, 1, 1, 1, 1}};
        for (int[] row : rounds) {
            x = stairs(java.util.Arrays.copyOfRange(row, 1, row.length));
            Check.same("settle() of " + java.util.Arrays.toString(row), x.settle(), row[0]);
            Check.same("count(4) behind it", x.count(4), 1);
            Check.same("settle() again", x.settle(), 0);
        }
        x = new StairKin();
        x.settle();
        Check.same("it is a change without steps, too", x.count(13), 1);
    }

    private static void settleErrors() {
        Sentences.begin("Promise 7", "LIMIT_REACHED if a least common multiple would be above 9999 in one of them.");
        StairKin x = stairs(101, 99);
        Check.same("9999", x.settle(), 1);
        numbers("9999", x, 1, 9999);
        refused("10000", LIMIT, () -> stairs(16, 625), y -> y.settle());
        refused("in the first share", LIMIT, () -> stairs(9973, 2, 1, 1), y -> y.settle());
        refused("in the second share", LIMIT, () -> stairs(3, 2, 9999, 10), y -> y.settle());
        refused("in the last share", LIMIT, () -> stairs(4, 2, 3, 9999), y -> y.settle());
        refused("of six", LIMIT, () -> rich(), y -> y.settle());
        refused("of twelve", LIMIT, () -> full(), y -> y.settle());
    }

    private static void set() {
        Sentences.begin("Promise 8", "Changes a setting.");
        StairKin x = stairs(4, 2);
        x.set(0, 2);
        Check.same("the rule", x.count(10), 2);
        Check.same("the stride stays", x.count(11), 2);
        Check.same("pairs by it", x.count(1), 0);
        x.set(1, 4);
        Check.same("the stride", x.count(11), 4);
        Check.same("the rule stays", x.count(10), 2);
        Check.same("a change each", x.count(13), 4);
        Sentences.begin("Promise 8", "`what`: 0 or 1");
        range("what", 0, 1, () -> rich(), (y, value) -> y.set(value, 2));
        Sentences.begin("Promise 8", "`value`: a value in its range");
        range("the rule", 0, 2, () -> rich(), (y, value) -> y.set(0, value));
        range("the stride", 1, 4, () -> rich(), (y, value) -> y.set(1, value));
        range("the rule of none", 0, 2, () -> new StairKin(), (y, value) -> y.set(0, value));
        range("the stride of none", 1, 4, () -> new StairKin(), (y, value) -> y.set(1, value));
        Sentences.begin("Promise 8", "Returns the value before");
        x = new StairKin();
        int[][] due = {{0, 2, 0}, {0, 2, 2}, {0, 1, 2}, {0, 0, 1}, {1, 1, 2}, {1, 4, 1}, {1, 4, 4}, {1, 3, 4},
            {0, 2, 0}, {1, 2, 3}};
        for (int[] row : due) {
            Check.same("set(" + row[0] + ", " + row[1] + ")", x.set(row[0], row[1]), row[2]);
        }
        Sentences.begin("Promise 8", "INVALID_ARGUMENT");
        refused("set(-1, 1)", INVALID, () -> rich(), y -> y.set(-1, 1));
        refused("set(2, 1)", INVALID, () -> rich(), y -> y.set(2, 1));
        refused("set(0, 3), which is a stride", INVALID, () -> rich(), y -> y.set(0, 3));
        refused("set(0, -1)", INVALID, () -> rich(), y -> y.set(0, -1));
        refused("set(1, 0), which is a rule", INVALID, () -> rich(), y -> y.set(1, 0));
        refused("set(1, 5)", INVALID, () -> rich(), y -> y.set(1, 5));
        refused("set(2, 9)", INVALID, () -> rich(), y -> y.set(2, 9));
    }
}
