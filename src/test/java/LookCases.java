/** Promises 15 to 25, sentence by sentence: looks, by which nothing is changed. */
final class LookCases extends Cases {
    private LookCases() {
    }

    static void all() {
        stepProperties();
        stepFactors();
        stepErrors();
        factor();
        common();
        whyNot();
        climbs();
        climb();
        climbErrors();
        climbAt();
        crown();
        prime();
        primeErrors();
        countOfSteps();
        countOfAccounts();
        countOfTheRest();
        mean();
        nothingIsChanged();
    }

    private static void property(String call, StairKin x, int what, int... due) {
        for (int step = 0; step < due.length; step++) {
            Check.same(call + ": step(" + step + ", " + what + ")", x.step(step, what), due[step]);
        }
    }

    private static void stepProperties() {
        Sentences.begin("Promise 15", "Returns a property of a step.");
        property("three", stairs(4, 9, 6), 0, 4, 9, 6);
        kept("step(0, 0)", () -> rich(), x -> x.step(0, 0));
        Sentences.begin("Promise 15", "`step`: a step");
        range("step of one", 0, 0, () -> stairs(1), (x, value) -> x.step(value, 0));
        range("step of six", 0, 5, () -> rich(), (x, value) -> x.step(value, 1));
        range("step of twelve", 0, 11, () -> full(), (x, value) -> x.step(value, 7));
        Sentences.begin("Promise 15", "`what`: 0: its number");
        range("what", 0, 7, () -> rich(), (x, value) -> x.step(0, value));
        property("numbers", stairs(1, 9999, 12), 0, 1, 9999, 12);
        property("numbers of six", rich(), 0, 6, 3, 35, 1, 9973, 14);
        Sentences.begin("Promise 15", "1: how many kin it has");
        StairKin x = stairs(6, 35, 3, 1, 14, 9973);
        property("rule 0", x, 1, 2, 1, 1, 0, 2, 0);
        x.set(StairKin.RULE, 1);
        property("rule 1", x, 1, 2, 1, 2, 5, 1, 1);
        x.set(StairKin.RULE, 2);
        property("rule 2", x, 1, 0, 0, 0, 2, 1, 1);
        property("alone", stairs(6), 1, 0);
        property("twelve alike", alike(12, 6), 1, 11, 11, 11, 11, 11, 11, 11, 11, 11, 11, 11, 11);
        Sentences.begin("Promise 15", "2: its family: the lowest step of it");
        x = stairs(5, 6, 35, 11, 22, 3, 1);
        property("rule 0", x, 2, 0, 1, 0, 1, 1, 1, 6);
        x.set(StairKin.RULE, 1);
        property("rule 1, joined by 1", x, 2, 0, 0, 0, 0, 0, 0, 0);
        x.set(StairKin.RULE, 2);
        property("rule 2", x, 2, 0, 1, 0, 3, 3, 5, 6);
        Sentences.begin("Promise 15", "3: how many steps its family has");
        property("rule 2", x, 3, 2, 1, 2, 2, 2, 1, 1);
        x.set(StairKin.RULE, 0);
        property("rule 0", x, 3, 2, 4, 2, 4, 4, 4, 1);
        property("alone", stairs(1), 3, 1);
        Sentences.begin("Promise 15", "7: how many steps a climb can go on to from it at once");
        property("stride 2", alike(5, 6), 7, 2, 2, 2, 1, 0);
        x = stairs(6, 5, 4, 3, 2, 6, 10);
        int[][] due = {{0, 0, 0, 0, 1, 1, 0}, {1, 0, 1, 1, 2, 1, 0}, {2, 0, 2, 1, 2, 1, 0}, {3, 0, 3, 1, 2, 1, 0}};
        for (int stride = 1; stride <= 4; stride++) {
            x.set(StairKin.STRIDE, stride);
            property("stride " + stride, x, 7, due[stride - 1]);
        }
        x.set(StairKin.RULE, 2);
        property("stride 4, rule 2", x, 7, 0, 0, 0, 1, 2, 0, 0);
    }

    private static void stepFactors() {
        int[] numbers = {1, 2, 4, 8192, 9973, 9409, 2310, 9999, 360, 6561, 7680, 9998};
        StairKin x = stairs(numbers);
        Sentences.begin("Promise 15", "4: how many prime factors its number has, each as often as its exponent tells");
        property("factors", x, 4, 0, 1, 2, 13, 1, 2, 5, 4, 6, 8, 11, 2);
        Sentences.begin("Promise 15", "5: how many different ones");
        property("different factors", x, 5, 0, 1, 1, 1, 1, 1, 5, 3, 3, 1, 3, 2);
        Sentences.begin("Promise 15", "6: the greatest one, NOT_FOUND for the number 1");
        property("greatest factor", x, 6, NOT_FOUND, 2, 2, 2, 9973, 97, 11, 101, 5, 3, 5, 4999);
        refused("greatest factor of 1", NOT_FOUND, () -> rich(), y -> y.step(3, 6));
    }

    private static void stepErrors() {
        Sentences.begin("Promise 15", "Returns the number");
        StairKin x = full();
        int[] due = {8, 2, 0, 12, 3, 1, 2, 0};
        for (int what = 0; what < due.length; what++) {
            Check.same("step(11, " + what + ") of twelve", x.step(11, what), due[what]);
        }
        Sentences.begin("Promise 15", "INVALID_ARGUMENT");
        for (int what = 0; what < 8; what++) {
            int which = what;
            refused("step(0, " + what + ") of none", INVALID, () -> new StairKin(), y -> y.step(0, which));
            Check.same("step(6, " + what + ") of six", rich().step(6, what), INVALID);
            Check.same("step(-1, " + what + ") of six", rich().step(-1, what), INVALID);
            Check.same("step(12, " + what + ") of twelve", full().step(12, what), INVALID);
        }
        refused("step(3, 8) of 1", INVALID, () -> rich(), y -> y.step(3, 8));
        refused("step(3, -1) of 1", INVALID, () -> rich(), y -> y.step(3, -1));
    }

    private static void factor() {
        Sentences.begin("Promise 16", "Returns a prime factor of the number of a step.");
        int[][] due = {{1}, {2, 2}, {9973, 9973}, {9409, 97, 97}, {2310, 2, 3, 5, 7, 11}, {9999, 3, 3, 11, 101},
            {360, 2, 2, 2, 3, 3, 5}, {9991, 97, 103}, {8192, 2, 2, 2, 2, 2, 2, 2, 2, 2, 2, 2, 2, 2}, {9998, 2, 4999}};
        for (int[] row : due) {
            StairKin x = stairs(7, row[0]);
            for (int place = 0; place + 1 < row.length; place++) {
                Check.same("factor of " + row[0] + " at " + place, x.factor(1, place), row[place + 1]);
            }
            Check.same("factor of " + row[0] + " behind the last", x.factor(1, row.length - 1), NOT_FOUND);
        }
        Sentences.begin("Promise 16", "`step`: a step");
        range("factor of one", 0, 0, () -> stairs(6), (x, value) -> x.factor(value, 0));
        range("factor of six", 0, 5, () -> rich(), (x, value) -> x.factor(value, 0));
        range("factor of twelve", 0, 11, () -> full(), (x, value) -> x.factor(value, 1));
        Sentences.begin("Promise 16", "`place`: 0 for the least one, and so on, each as often as its exponent tells");
        StairKin x = stairs(12);
        Check.same("factor(0, 0)", x.factor(0, 0), 2);
        Check.same("factor(0, 1)", x.factor(0, 1), 2);
        Check.same("factor(0, 2)", x.factor(0, 2), 3);
        Sentences.begin("Promise 16", "Returns the prime");
        Check.same("of two", stairs(35, 14).factor(0, 1), 7);
        Check.same("of two", stairs(35, 14).factor(1, 0), 2);
        Sentences.begin("Promise 16", "INVALID_ARGUMENT (also if place is below 0)");
        for (int place : new int[] {-1, -2, LEAST}) {
            refused("factor(0, " + place + ")", INVALID, () -> rich(), y -> y.factor(0, place));
            refused("factor(3, " + place + ") of 1", INVALID, () -> rich(), y -> y.factor(3, place));
        }
        refused("factor(0, 0) of none", INVALID, () -> new StairKin(), y -> y.factor(0, 0));
        Sentences.begin("Promise 16", "NOT_FOUND if it has not so many.");
        refused("factor(0, 2) of 6", NOT_FOUND, () -> rich(), y -> y.factor(0, 2));
        refused("factor(3, 0) of 1", NOT_FOUND, () -> rich(), y -> y.factor(3, 0));
        refused("factor(4, 1) of 9973", NOT_FOUND, () -> rich(), y -> y.factor(4, 1));
        refused("factor(0, 13) of 8192", NOT_FOUND, () -> stairs(8192), y -> y.factor(0, 13));
        refused("factor(0, most)", NOT_FOUND, () -> rich(), y -> y.factor(0, MOST));
    }

    private static void common() {
        Sentences.begin("Promise 17", "Returns the greatest common divisor of the numbers of two steps.");
        int[][] due = {{1, 1, 1}, {1, 9999, 1}, {9999, 9999, 9999}, {9998, 9999, 1}, {8192, 6144, 2048},
            {8192, 8192, 8192}, {9973, 9973, 9973}, {360, 84, 12}, {9409, 97, 97}, {97, 9991, 97}, {6765, 4181, 1},
            {9801, 9900, 99}, {5040, 7560, 2520}};
        for (int[] row : due) {
            StairKin x = stairs(row[0], 7, row[1]);
            for (int way = 0; way < 2; way++) {
                String call = "common of " + row[0] + " and " + row[1] + ", way " + way;
                Check.same(call, x.common(0, 2, way), row[2]);
                Check.same(call + ", turned round", x.common(2, 0, way), row[2]);
                Check.same(call + ", of itself", x.common(2, 2, way), row[1]);
            }
        }
        for (String name : new String[] {"one", "other"}) {
            Sentences.begin("Promise 17", "`" + name + "`: a step");
            boolean one = name.equals("one");
            range(name + " of one", 0, 0, () -> stairs(6), (x, value) -> x.common(one ? value : 0, one ? 0 : value, 0));
            range(name + " of six", 0, 5, () -> rich(), (x, value) -> x.common(one ? value : 0, one ? 0 : value, 1));
            range(name + " of twelve", 0, 11, () -> full(), (x, value) -> x.common(one ? value : 11, one ? 11 : value, 0));
        }
        Sentences.begin("Promise 17", "0: told by remainders");
        range("way", 0, 1, () -> rich(), (x, value) -> x.common(0, 1, value));
        Check.same("common(0, 1, 0) of 6 and 3", rich().common(0, 1, 0), 3);
        Sentences.begin("Promise 17", "1: told by prime factors");
        Check.same("common(0, 1, 1) of 6 and 3", rich().common(0, 1, 1), 3);
        Sentences.begin("Promise 17", "Returns the divisor (the same for both)");
        StairKin x = full();
        for (int turn = 0; turn < 144; turn++) {
            int one = turn / 12;
            Check.same("common(" + one + ", " + turn % 12 + ", ..)", x.common(one, turn % 12, 1), x.common(one, turn % 12, 0));
        }
        Sentences.begin("Promise 17", "INVALID_ARGUMENT");
        refused("common(0, 0, 0) of none", INVALID, () -> new StairKin(), y -> y.common(0, 0, 0));
        refused("common(6, 0, 0) of six", INVALID, () -> rich(), y -> y.common(6, 0, 0));
        refused("common(0, 6, 1) of six", INVALID, () -> rich(), y -> y.common(0, 6, 1));
        refused("common(0, 0, 2)", INVALID, () -> rich(), y -> y.common(0, 0, 2));
    }

    private static void whyNot() {
        Sentences.begin("Promise 18", "Tells why a climb cannot go on from a step to another one.");
        kept("whyNot(0, 1)", () -> rich(), x -> x.whyNot(0, 1));
        for (String name : new String[] {"from", "to"}) {
            Sentences.begin("Promise 18", "`" + name + "`: a step");
            boolean from = name.equals("from");
            range(name + " of one", 0, 0, () -> stairs(6), (x, value) -> x.whyNot(from ? value : 0, from ? 0 : value));
            range(name + " of six", 0, 5, () -> rich(), (x, value) -> x.whyNot(from ? value : 2, from ? 2 : value));
            range(name + " of twelve", 0, 11, () -> full(), (x, value) -> x.whyNot(from ? value : 11, from ? 11 : value));
        }
        Sentences.begin("Promise 18", "Returns 0 if it can");
        StairKin x = stairs(6, 3, 4, 35, 9, 2, 8);
        Check.same("whyNot(0, 1)", x.whyNot(0, 1), 0);
        Check.same("whyNot(0, 2), by the whole stride", x.whyNot(0, 2), 0);
        Check.same("whyNot(5, 6)", x.whyNot(5, 6), 0);
        Sentences.begin("Promise 18", "otherwise the first of these that is so: 1: the other one is not higher");
        Check.same("whyNot(1, 0), which are kin", x.whyNot(1, 0), 1);
        Check.same("whyNot(3, 3)", x.whyNot(3, 3), 1);
        Check.same("whyNot(6, 0), which is far", x.whyNot(6, 0), 1);
        Check.same("whyNot(4, 3), which is no kin", x.whyNot(4, 3), 1);
        Check.same("whyNot(3, 0), which is far and no kin", x.whyNot(3, 0), 1);
        Sentences.begin("Promise 18", "2: it is too far");
        Check.same("whyNot(1, 4), which are kin", x.whyNot(1, 4), 2);
        Check.same("whyNot(0, 3), which are no kin", x.whyNot(0, 3), 2);
        Check.same("whyNot(0, 6)", x.whyNot(0, 6), 2);
        x.set(StairKin.STRIDE, 3);
        Check.same("whyNot(1, 4) by the stride 3", x.whyNot(1, 4), 0);
        Check.same("whyNot(0, 4) by the stride 3", x.whyNot(0, 4), 2);
        Sentences.begin("Promise 18", "3: they are not kin");
        Check.same("whyNot(0, 3) by the stride 3", x.whyNot(0, 3), 3);
        Check.same("whyNot(1, 2)", x.whyNot(1, 2), 3);
        Sentences.begin("Promise 18", "INVALID_ARGUMENT");
        refused("whyNot(0, 0) of none", INVALID, () -> new StairKin(), y -> y.whyNot(0, 0));
        refused("whyNot(6, 0) of six, which would not be higher", INVALID, () -> rich(), y -> y.whyNot(6, 0));
        refused("whyNot(0, 6) of six, which would be too far", INVALID, () -> rich(), y -> y.whyNot(0, 6));
    }

    private static void ways(StairKin x, int from, int to, int due) {
        for (int way = 0; way < 2; way++) {
            Check.same("climbs(" + from + ", " + to + ", " + way + ")", x.climbs(from, to, way), due);
        }
    }

    private static void climbs() {
        Sentences.begin("Promise 19", "Returns how many climbs there are.");
        StairKin x = alike(12, 6);
        int[][] due = {{1, 1}, {1, 144}, {1, 504}, {1, 773}};
        for (int stride = 1; stride <= 4; stride++) {
            x.set(StairKin.STRIDE, stride);
            ways(x, 11, 11, due[stride - 1][0]);
            ways(x, 0, 11, due[stride - 1][1]);
        }
        Sentences.begin("Promise 19", "`from`: a step");
        range("from, to the highest one of six", 0, 5, () -> rich(), (y, value) -> y.climbs(value, 5, 0));
        range("from, of twelve", 0, 11, () -> full(), (y, value) -> y.climbs(value, 11, 1));
        Sentences.begin("Promise 19", "`to`: a step that is not lower");
        range("to, from 2 of six", 2, 5, () -> rich(), (y, value) -> y.climbs(2, value, 0));
        range("to, from 0 of twelve", 0, 11, () -> full(), (y, value) -> y.climbs(0, value, 1));
        range("to, of one", 0, 0, () -> stairs(1), (y, value) -> y.climbs(0, value, 0));
        Sentences.begin("Promise 19", "`way`: 0: told by adding up, step by step");
        range("way", 0, 1, () -> rich(), (y, value) -> y.climbs(0, 1, value));
        Check.same("climbs(0, 4, 0)", alike(5, 2).climbs(0, 4, 0), 5);
        Sentences.begin("Promise 19", "1: told by going each of them");
        Check.same("climbs(0, 4, 1)", alike(5, 2).climbs(0, 4, 1), 5);
        Sentences.begin("Promise 19", "Returns how many (the same for both)");
        x = stairs(6, 10, 15, 7, 1, 21);
        ways(x, 0, 2, 2);
        ways(x, 0, 3, 0);
        ways(x, 3, 5, 1);
        ways(x, 4, 4, 1);
        ways(x, 4, 5, 0);
        ways(x, 0, 5, 0);
        x.set(StairKin.STRIDE, 3);
        ways(x, 0, 5, 2);
        x.set(StairKin.RULE, 1);
        ways(x, 0, 5, 0);
        ways(x, 4, 5, 1);
        ways(x, 1, 5, 1);
        Sentences.begin("Promise 19", "INVALID_ARGUMENT");
        refused("climbs(0, 0, 0) of none", INVALID, () -> new StairKin(), y -> y.climbs(0, 0, 0));
        refused("climbs(1, 0, 0)", INVALID, () -> rich(), y -> y.climbs(1, 0, 0));
        refused("climbs(5, 6, 1)", INVALID, () -> rich(), y -> y.climbs(5, 6, 1));
        refused("climbs(-1, 0, 1)", INVALID, () -> rich(), y -> y.climbs(-1, 0, 1));
        refused("climbs(0, 1, 2)", INVALID, () -> rich(), y -> y.climbs(0, 1, 2));
    }

    private static void climb() {
        StairKin x = stairs(6, 9999, 2, 2, 6, 35);
        x.set(StairKin.STRIDE, 3);
        Sentences.begin("Promise 20", "Returns a number of a climb.");
        Check.same("the only one", x.climb(3, 4, 0, 1), 8);
        kept("climb(0, 1, 0, 0)", () -> rich(), y -> y.climb(0, 1, 0, 0));
        Sentences.begin("Promise 20", "0: the longest climb");
        range("kind", 0, 2, () -> rich(), (y, value) -> y.climb(0, 1, value, 0));
        Check.same("longest, steps", x.climb(0, 4, 0, 0), 4);
        Check.same("longest, sum", x.climb(0, 4, 0, 1), 16);
        Check.same("longest, common divisor", x.climb(0, 4, 0, 2), 2);
        Sentences.begin("Promise 20", "1: the shortest one");
        Check.same("shortest, steps", x.climb(2, 4, 1, 0), 2);
        Check.same("shortest, sum", x.climb(2, 4, 1, 1), 8);
        Check.same("shortest, common divisor", x.climb(0, 4, 1, 2), 3);
        Sentences.begin("Promise 20", "2: the heaviest one");
        Check.same("heaviest, steps", x.climb(0, 4, 2, 0), 3);
        Check.same("heaviest, sum", x.climb(0, 4, 2, 1), 10011);
        Check.same("heaviest, common divisor", x.climb(0, 4, 2, 2), 3);
        x = alike(12, 9999);
        Sentences.begin("Promise 20", "0: how many steps it has");
        range("what", 0, 2, () -> rich(), (y, value) -> y.climb(0, 1, 0, value));
        Check.same("all twelve", x.climb(0, 11, 0, 0), 12);
        Check.same("the shortest one over twelve", x.climb(0, 11, 1, 0), 7);
        Check.same("one", x.climb(11, 11, 1, 0), 1);
        Sentences.begin("Promise 20", "1: the sum of their numbers");
        Check.same("all twelve", x.climb(0, 11, 2, 1), 119988);
        Check.same("one", stairs(1).climb(0, 0, 0, 1), 1);
        Sentences.begin("Promise 20", "2: the greatest common divisor of their numbers");
        Check.same("all twelve", x.climb(0, 11, 2, 2), 9999);
        Check.same("one", stairs(1).climb(0, 0, 0, 2), 1);
        Check.same("of three, two of which share", stairs(6, 10, 15).climb(0, 2, 0, 2), 1);
        Check.same("of the ends", stairs(6, 10, 15).climb(0, 2, 1, 2), 3);
        x = stairs(7, 1, 9973);
        x.set(StairKin.RULE, 1);
        Check.same("over 1", x.climb(0, 2, 0, 2), 1);
    }

    private static void climbErrors() {
        Sentences.begin("Promise 20", "`from`: a step");
        range("from, of six", 0, 5, () -> rich(), (x, value) -> x.climb(value, 5, 0, 0));
        range("from, of twelve", 0, 11, () -> full(), (x, value) -> x.climb(value, 11, 1, 0));
        Sentences.begin("Promise 20", "`to`: a step that is not lower");
        range("to, from 2 of six", 2, 5, () -> rich(), (x, value) -> x.climb(2, value, 0, 0));
        range("to, from 0 of twelve", 0, 11, () -> full(), (x, value) -> x.climb(0, value, 2, 0));
        Sentences.begin("Promise 20", "Returns the number");
        kept("climb(0, 1, 2, 1)", () -> rich(), x -> x.climb(0, 1, 2, 1));
        Check.same("climb(3, 4, 0, 1)", rich().climb(3, 4, 0, 1), 9974);
        Sentences.begin("Promise 20", "INVALID_ARGUMENT");
        refused("climb(0, 0, 0, 0) of none", INVALID, () -> new StairKin(), x -> x.climb(0, 0, 0, 0));
        refused("climb(1, 0, 0, 0)", INVALID, () -> rich(), x -> x.climb(1, 0, 0, 0));
        refused("climb(0, 1, 3, 0)", INVALID, () -> rich(), x -> x.climb(0, 1, 3, 0));
        refused("climb(0, 1, 0, 3)", INVALID, () -> rich(), x -> x.climb(0, 1, 0, 3));
        refused("climb(0, 4, -1, 0) without a climb", INVALID, () -> stairs(2, 2, 3, 3, 2), x -> x.climb(0, 4, -1, 0));
        Sentences.begin("Promise 20", "NOT_FOUND if there is no climb.");
        for (int kind = 0; kind < 3; kind++) {
            for (int what = 0; what < 3; what++) {
                int which = kind;
                int number = what;
                refused("climb(0, 4, " + kind + ", " + what + ")", NOT_FOUND, () -> stairs(2, 2, 3, 3, 2),
                        x -> x.climb(0, 4, which, number));
                Check.same("to the next one", stairs(2, 3).climb(0, 1, kind, what), NOT_FOUND);
            }
        }
        Check.same("none to the end, but one ahead of it", stairs(2, 2, 3, 3, 2).climb(0, 1, 0, 0), 2);
    }

    private static void climbAt() {
        Sentences.begin("Promise 21", "Returns a step of a climb.");
        StairKin x = stairs(6, 9999, 2, 2, 6, 35);
        x.set(StairKin.STRIDE, 3);
        path("longest", x, 0, 4, 0, 0, 2, 3, 4);
        path("shortest", x, 0, 4, 1, 0, 1, 4);
        path("heaviest", x, 0, 4, 2, 0, 1, 4);
        Sentences.begin("Promise 21", "`from`: a step");
        range("from, of six", 0, 5, () -> rich(), (y, value) -> y.climbAt(value, 5, 0, 0));
        range("from, of twelve", 0, 11, () -> full(), (y, value) -> y.climbAt(value, 11, 1, 0));
        Sentences.begin("Promise 21", "`to`: a step that is not lower");
        range("to, from 2 of six", 2, 5, () -> rich(), (y, value) -> y.climbAt(2, value, 0, 0));
        range("to, from 0 of twelve", 0, 11, () -> full(), (y, value) -> y.climbAt(0, value, 2, 0));
        Sentences.begin("Promise 21", "`kind`: as for climb()");
        range("kind", 0, 2, () -> rich(), (y, value) -> y.climbAt(0, 1, value, 0));
        Sentences.begin("Promise 21", "`place`: 0 for the first step of it, and so on");
        x = alike(12, 4);
        for (int place = 0; place < 12; place++) {
            Check.same("climbAt(0, 11, 0, " + place + ")", x.climbAt(0, 11, 0, place), place);
            Check.same("climbAt(.., 0) of one step", x.climbAt(place, place, 1, 0), place);
        }
        Sentences.begin("Promise 21", "Returns the step");
        Check.same("the last one of the shortest", x.climbAt(1, 11, 1, 5), 11);
        Check.same("the last but one of the shortest", x.climbAt(1, 11, 1, 4), 9);
        Sentences.begin("Promise 21", "INVALID_ARGUMENT (also if place is below 0)");
        for (int place : new int[] {-1, -2, LEAST}) {
            refused("climbAt(0, 1, 0, " + place + ")", INVALID, () -> rich(), y -> y.climbAt(0, 1, 0, place));
            Check.same("without a climb", stairs(2, 3).climbAt(0, 1, 0, place), INVALID);
        }
        refused("climbAt(0, 0, 0, 0) of none", INVALID, () -> new StairKin(), y -> y.climbAt(0, 0, 0, 0));
        refused("climbAt(1, 0, 0, 0)", INVALID, () -> rich(), y -> y.climbAt(1, 0, 0, 0));
        refused("climbAt(0, 1, 3, 0)", INVALID, () -> rich(), y -> y.climbAt(0, 1, 3, 0));
        Sentences.begin("Promise 21", "NOT_FOUND if there is no climb, or it has not so many steps.");
        refused("no climb", NOT_FOUND, () -> stairs(2, 3), y -> y.climbAt(0, 1, 0, 0));
        refused("no climb", NOT_FOUND, () -> stairs(2, 2, 3, 3, 2), y -> y.climbAt(0, 4, 2, 0));
        refused("two steps", NOT_FOUND, () -> rich(), y -> y.climbAt(0, 1, 0, 2));
        refused("one step", NOT_FOUND, () -> rich(), y -> y.climbAt(5, 5, 0, 1));
        refused("twelve steps", NOT_FOUND, () -> alike(12, 2), y -> y.climbAt(0, 11, 0, 12));
        refused("the greatest place", NOT_FOUND, () -> rich(), y -> y.climbAt(0, 1, 0, MOST));
    }

    private static void crown() {
        Sentences.begin("Promise 22", "Returns the step that has the crown.");
        Check.same("of one", stairs(1).crown(), 0);
        Check.same("the highest one of twelve", stairs(2, 2, 2, 2, 2, 2, 2, 2, 2, 2, 2, 4).crown(), 11);
        StairKin x = stairs(4, 9, 8, 1);
        Check.same("by rule 0", x.crown(), 2);
        x.set(StairKin.RULE, 1);
        Check.same("by rule 1", x.crown(), 3);
        x.set(StairKin.RULE, 2);
        Check.same("by rule 2", x.crown(), 2);
        Sentences.begin("Promise 22", "Returns the step; ");
        x.take(2);
        Check.same("without its step", x.crown(), 1);
        Sentences.begin("Promise 22", "NOT_FOUND without steps.");
        refused("crown()", NOT_FOUND, () -> new StairKin(), y -> y.crown());
        x = stairs(7);
        x.strike(0, 7);
        Check.same("crown() when the last one broke", x.crown(), NOT_FOUND);
    }

    private static void account(StairKin x, int prime, int... due) {
        for (int what = 0; what < due.length; what++) {
            Check.same("prime(" + prime + ", " + what + ")", x.prime(prime, what), due[what]);
        }
    }

    private static void prime() {
        Sentences.begin("Promise 23", "Returns an account of a prime.");
        account(new StairKin(), 2, 0, 0, 0, 0, 0);
        account(rich(), 9973, 0, 1, 1, 1, 1);
        account(rich(), 9967, 0, 0, 0, 0, 0);
        Sentences.begin("Promise 23", "`prime`: 2 to 9999, a prime");
        range("prime", 2, 9973, () -> rich(), (x, value) -> x.prime(value, 0));
        boolean[] divided = new boolean[10000];
        StairKin x = new StairKin();
        for (int number = 2; number <= 9999; number++) {
            x = number % 500 == 0 ? new StairKin() : x;
            Check.same("prime(" + number + ", 1)", x.prime(number, 1), divided[number] ? INVALID : 0);
            for (int multiple = 2 * number; multiple <= 9999; multiple += number) {
                divided[multiple] = true;
            }
        }
        Sentences.begin("Promise 23", "`what`: 0: how many chips of it there are");
        range("what", 0, 4, () -> rich(), (y, value) -> y.prime(2, value));
        x = stairs(8, 72, 7, 9, 1);
        x.divide(0);
        x.strike(3, 3);
        x.strike(2, 7);
        Check.same("chips of 2", x.prime(2, 0), 3);
        Check.same("chips of 3", x.prime(3, 0), 1);
        Check.same("chips of 7, whose step broke", x.prime(7, 0), 1);
        Check.same("chips of 5", x.prime(5, 0), 0);
        Sentences.begin("Promise 23", "1: how often it came so far");
        Check.same("came of 2", x.prime(2, 1), 6);
        Check.same("came of 3", x.prime(3, 1), 4);
        Check.same("came of 7, whose step broke", x.prime(7, 1), 1);
        x.take(0);
        Check.same("came of 2 behind take()", x.prime(2, 1), 3);
        x.add(0, 8);
        Check.same("came of 2 behind add()", x.prime(2, 1), 6);
        numbers("behind all", x, 8, 9, 3, 1);
        Sentences.begin("Promise 23", "2: the sum of its exponents in the numbers of all steps");
        account(x, 2, 3, 6, 3, 3, 1);
        account(x, 3, 1, 4, 3, 2, 2);
        Check.same("of twelve", alike(12, 8192).prime(2, 2), 156);
        Check.same("without steps", new StairKin().prime(2, 2), 0);
        Sentences.begin("Promise 23", "3: the greatest of these");
        Check.same("the lowest one", stairs(8, 4, 6, 1).prime(2, 3), 3);
        Check.same("the highest one", stairs(1, 6, 4, 8192).prime(2, 3), 13);
        Check.same("of none", stairs(1, 9, 25).prime(2, 3), 0);
        Check.same("without steps", new StairKin().prime(2, 3), 0);
        Sentences.begin("Promise 23", "4: how many numbers it divides");
        Check.same("two of four", stairs(8, 9, 6, 1).prime(2, 4), 2);
        Check.same("twelve", alike(12, 9999).prime(101, 4), 12);
        Check.same("none", alike(12, 9999).prime(2, 4), 0);
        Check.same("without steps", new StairKin().prime(2, 4), 0);
    }

    private static void primeErrors() {
        Sentences.begin("Promise 23", "Returns the number");
        account(rich(), 2, 3, 5, 2, 1, 2);
        account(rich(), 3, 1, 3, 2, 1, 2);
        account(rich(), 7, 1, 3, 2, 1, 2);
        Sentences.begin("Promise 23", "INVALID_ARGUMENT (also if it is no prime)");
        for (int prime : new int[] {LEAST, -2, 0, 1, 4, 6, 9409, 9998, 9999, 10000, 10007, MOST}) {
            for (int what = 0; what < 5; what++) {
                Check.same("prime(" + prime + ", " + what + ")", full().prime(prime, what), INVALID);
            }
            refused("prime(" + prime + ", 0)", INVALID, () -> rich(), x -> x.prime(prime, 0));
        }
        refused("prime(2, -1)", INVALID, () -> rich(), x -> x.prime(2, -1));
        refused("prime(2, 5)", INVALID, () -> rich(), x -> x.prime(2, 5));
        refused("prime(2, 5) of none", INVALID, () -> new StairKin(), x -> x.prime(2, 5));
    }

    private static void counted(String call, StairKin x, int what, int due) {
        Check.same(call + ": count(" + what + ")", x.count(what), due);
    }

    private static void countOfSteps() {
        Sentences.begin("Promise 24", "`what`: 0: steps");
        counted("none", new StairKin(), 0, 0);
        counted("one", stairs(1), 0, 1);
        counted("twelve", full(), 0, 12);
        Sentences.begin("Promise 24", "1: pairs of steps that are kin");
        counted("none", new StairKin(), 1, 0);
        counted("one", stairs(6), 1, 0);
        counted("two", stairs(6, 9), 1, 1);
        counted("all of twelve", alike(12, 2), 1, 66);
        counted("none of twelve", alike(12, 1), 1, 0);
        Sentences.begin("Promise 24", "2: families");
        counted("none", new StairKin(), 2, 0);
        counted("one", stairs(1), 2, 1);
        counted("twelve, one family", alike(12, 2), 2, 1);
        counted("twelve, twelve families", alike(12, 1), 2, 12);
        counted("two and two and one", stairs(2, 3, 4, 9, 5), 2, 3);
        Sentences.begin("Promise 24", "3: steps of the greatest family");
        counted("none", new StairKin(), 3, 0);
        counted("one", stairs(1), 3, 1);
        counted("twelve", alike(12, 2), 3, 12);
        counted("ones", alike(12, 1), 3, 1);
        counted("the lowest family", stairs(2, 4, 6, 5, 25, 7), 3, 3);
        counted("the highest family", stairs(7, 5, 25, 2, 4, 8), 3, 3);
        Sentences.begin("Promise 24", "4: 1 if the stairs are settled, otherwise 0");
        counted("none", new StairKin(), 4, 1);
        counted("one", stairs(9999), 4, 1);
        counted("settled", stairs(3, 3, 6, 9996), 4, 1);
        counted("not settled", stairs(3, 3, 6, 9), 4, 0);
        Sentences.begin("Promise 24", "9: steps with the number 1");
        counted("none", new StairKin(), 9, 0);
        counted("none of two", stairs(2, 9999), 9, 0);
        counted("twelve", alike(12, 1), 9, 12);
        counted("the ends", stairs(1, 2, 1), 9, 2);
        Sentences.begin("Promise 24", "8: different primes that divide a number of a step");
        counted("none", new StairKin(), 8, 0);
        counted("ones", stairs(1, 1), 8, 0);
        counted("2 alone", stairs(2, 8192, 4), 8, 1);
        counted("all different", stairs(2310, 9973, 97, 101), 8, 8);
        counted("some of them more than once", stairs(12, 18, 35, 49, 9973), 8, 5);
        counted("all up to 103", stairs(2310, 4199, 667, 1147, 1763, 2491, 3599, 4757, 5767, 7387, 9797, 9991), 8, 27);
    }

    private static void countOfAccounts() {
        StairKin x = stairs(12, 36, 7, 1, 1);
        Sentences.begin("Promise 24", "5: chips");
        counted("none", x, 5, 0);
        x.divide(0);
        counted("three at once", x, 5, 3);
        x.strike(2, 7);
        counted("one more", x, 5, 4);
        x.divide(2);
        counted("1 brings none", x, 5, 4);
        Sentences.begin("Promise 24", "6: different primes of which there are chips");
        counted("2, 3 and 7", x, 6, 3);
        counted("none", stairs(12, 36), 6, 0);
        x.strike(0, 2);
        counted("2 once more", x, 6, 3);
        Sentences.begin("Promise 24", "7: steps that broke so far");
        counted("two", x, 7, 2);
        x.take(0);
        counted("taken off is not broken", x, 7, 2);
        x.strike(0, 3);
        counted("three", x, 7, 3);
        counted("none", new StairKin(), 7, 0);
        x.undo();
        counted("undo()", x, 7, 2);
    }

    private static void countOfTheRest() {
        Sentences.begin("Promise 24", "10 and 11: the settings 0 and 1");
        StairKin x = new StairKin();
        counted("the rule first", x, 10, 0);
        counted("the stride first", x, 11, 2);
        x.set(0, 2);
        x.set(1, 4);
        counted("the rule", x, 10, 2);
        counted("the stride", x, 11, 4);
        Sentences.begin("Promise 24", "12: the length of the pad");
        counted("of the empty pad", x, 12, 0);
        write(x, "s0;");
        counted("of three", x, 12, 3);
        counted("of the full pad", full("1".repeat(60)), 12, 60);
        Sentences.begin("Promise 24", "13: states in the history");
        counted("none", new StairKin(), 13, 0);
        counted("one", stairs(6), 13, 1);
        counted("four", stairs(6, 5, 4, 3), 13, 4);
        counted("four, the fifth one dropped", stairs(6, 5, 4, 3, 2), 13, 4);
        Sentences.begin("Promise 24", "Returns the number");
        int[] due = {6, 6, 1, 6, 0, 5, 3, 1, 5, 1, 1, 3, 3, 4};
        for (int what = 0; what < due.length; what++) {
            counted("of six", rich(), what, due[what]);
        }
        Sentences.begin("Promise 24", "Returns a number.");
        range("what", 0, 13, () -> rich(), (y, value) -> y.count(value));
        Sentences.begin("Promise 24", "INVALID_ARGUMENT");
        refused("count(-1) of none", INVALID, () -> new StairKin(), y -> y.count(-1));
        refused("count(14) of none", INVALID, () -> new StairKin(), y -> y.count(14));
        refused("count(14)", INVALID, () -> full(), y -> y.count(14));
    }

    private static void mean() {
        Sentences.begin("Promise 25", "Returns how many kin steps have on the mean.");
        Check.same("one", stairs(6).mean(), 0.0);
        Check.same("twelve alike", alike(12, 6).mean(), 11.0);
        Check.same("twelve ones", alike(12, 1).mean(), 0.0);
        Sentences.begin("Promise 25", "Returns the sum of the kin of all steps, as a double, divided by the number of steps");
        Check.same("two of three", stairs(6, 4, 5).mean(), 2.0 / 3.0);
        Check.same("two of four", stairs(6, 4, 5, 7).mean(), 0.5);
        Check.same("six pairs of six", rich().mean(), 2.0);
        StairKin x = stairs(2, 4, 3, 9, 6, 1, 1);
        Check.same("rule 0", x.mean(), 12.0 / 7.0);
        x.set(StairKin.RULE, 1);
        Check.same("rule 1", x.mean(), 30.0 / 7.0);
        Sentences.begin("Promise 25", "0.0 without steps");
        Check.same("none", new StairKin().mean(), 0.0);
        Check.same("none is no negative 0", Double.toString(new StairKin().mean()), "0.0");
        x = stairs(7);
        x.strike(0, 7);
        Check.same("the last one broke", x.mean(), 0.0);
    }

    private static void nothingIsChanged() {
        Sentences.begin("Changes and errors", "---- looks; nothing is changed.");
        for (Made made : new Made[] {() -> new StairKin(), () -> rich(), () -> full("s0;d1;k2.5"), () -> stairs(1)}) {
            kept("step(.., ..)", made, x -> x.step(0, 2) + x.step(1, 3) + x.step(2, 6) + x.step(0, 7));
            kept("factor(0, 0)", made, x -> x.factor(0, 0));
            kept("common(0, 1, ..)", made, x -> x.common(0, 1, 0) + x.common(0, 1, 1));
            kept("whyNot(0, 1)", made, x -> x.whyNot(0, 1));
            kept("climbs(0, 1, ..)", made, x -> x.climbs(0, 1, 0) + x.climbs(0, 1, 1));
            kept("climb(0, 1, ..)", made, x -> x.climb(0, 1, 0, 0) + x.climb(0, 1, 1, 1) + x.climb(0, 1, 2, 2));
            kept("climbAt(0, 1, 0, 1)", made, x -> x.climbAt(0, 1, 0, 1));
            kept("crown()", made, x -> x.crown());
            kept("prime(2, ..)", made, x -> x.prime(2, 0) + x.prime(2, 1) + x.prime(9967, 1) + x.prime(3, 2));
            kept("count(..)", made, x -> x.count(1) + x.count(3) + x.count(5) + x.count(8) + x.count(13));
            kept("mean()", made, x -> (int) x.mean());
        }
    }
}
