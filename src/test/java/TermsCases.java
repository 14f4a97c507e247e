/** "Terms", sentence by sentence: steps, kin, climbs, deeds, settings. */
final class TermsCases extends Cases {
    private TermsCases() {
    }

    static void all() {
        steps();
        numbersOfSteps();
        exponents();
        kin();
        families();
        crown();
        climbs();
        strides();
        kindsOfClimbs();
        climbsOfAKind();
        shares();
        divisions();
        strikes();
        breaks();
        onesThatStay();
        chips();
        came();
        rounds();
        settled();
        settings();
    }

    private static void steps() {
        Sentences.begin("Steps", "There are at most 12 steps");
        StairKin x = alike(11, 4);
        Check.same("add to 11", x.add(11, 9), 12);
        Check.same("add to 12", x.add(12, 9), LIMIT);
        Check.same("read to 12", numbersRead(x, "5"), LIMIT);
        Check.same("steps", x.count(0), 12);
        Check.same("take from 12", x.take(0), 4);
        Check.same("read to 11", x.read(), 12);
        numbers("twelve", x, 4, 4, 4, 4, 4, 4, 4, 4, 4, 4, 9, 5);

        Sentences.begin("Steps", "numbered from 0 from the bottom to the top");
        x = stairs(5, 6, 7);
        for (int step = 0; step < 3; step++) {
            Check.same("step(" + step + ", 0) of three", x.step(step, 0), 5 + step);
        }
        Check.same("step(-1, 0) of three", x.step(-1, 0), INVALID);
        Check.same("step(3, 0) of three", x.step(3, 0), INVALID);
        Check.same("step(0, 0) of none", new StairKin().step(0, 0), INVALID);
        Check.same("step(11, 0) of twelve", full().step(11, 0), 8);
        Check.same("step(12, 0) of twelve", full().step(12, 0), INVALID);

        Sentences.begin("Steps", "each bears a number, 1 to 9999");
        x = new StairKin();
        Check.same("a step with 1", x.add(0, 1), 1);
        Check.same("a step with 9999", x.add(1, 9999), 2);
        numbers("the least and the greatest", x, 1, 9999);
        Check.same("a step with 0", x.add(0, 0), INVALID);
        Check.same("a step with 10000", x.add(0, 10000), INVALID);
        Check.same("a step with 0 from the pad", numbersRead(x, "0"), NOT_POSSIBLE);
        Check.same("a step with 10000 from the pad", numbersRead(x, "10000"), NOT_POSSIBLE);
        numbers("the least and the greatest", x, 1, 9999);
    }

    private static void numbersOfSteps() {
        Sentences.begin("Steps", "If a step is put in, or taken out, those above it get numbers that are 1 more, or 1 less.");
        StairKin x = stairs(2, 3, 5);
        x.add(0, 7);
        numbers("put in at the bottom", x, 7, 2, 3, 5);
        x.add(2, 11);
        numbers("put in between", x, 7, 2, 11, 3, 5);
        x.add(5, 13);
        numbers("put in on the top", x, 7, 2, 11, 3, 5, 13);
        x.take(2);
        numbers("taken off between", x, 7, 2, 3, 5, 13);
        x.take(0);
        numbers("taken off at the bottom", x, 2, 3, 5, 13);
        x.take(3);
        numbers("taken off on the top", x, 2, 3, 5);
        x.strike(1, 3);
        numbers("broken", x, 2, 5);
        x = stairs(11, 10, 9, 8, 7, 6, 5, 4, 3, 2, 1);
        x.add(0, 12);
        numbers("put in as the twelfth", x, 12, 11, 10, 9, 8, 7, 6, 5, 4, 3, 2, 1);
        x.take(0);
        numbers("taken off from twelve", x, 11, 10, 9, 8, 7, 6, 5, 4, 3, 2, 1);
    }

    private static void exponents() {
        Sentences.begin("Steps", "how often the number can be divided by it, one time after the other");
        int[][] due = {
            {8192, 2, 13}, {4096, 2, 12}, {9998, 2, 1}, {6561, 3, 8}, {9999, 3, 2}, {9409, 97, 2}, {9973, 9973, 1},
            {9973, 2, 0}, {1, 2, 0}, {9604, 7, 4}, {7680, 2, 9}, {7680, 5, 1}, {7680, 7, 0}
        };
        for (int[] row : due) {
            Check.same("exponent of " + row[1] + " in " + row[0], stairs(row[0]).prime(row[1], 3), row[2]);
        }
    }

    private static void pair(int rule, int low, int high, int due) {
        StairKin x = stairs(low, high);
        x.set(StairKin.RULE, rule);
        String call = low + " below " + high + " by rule " + rule;
        Check.same(call + ": pairs", x.count(1), due);
        Check.same(call + ": kin of the lower one", x.step(0, 1), due);
        Check.same(call + ": kin of the higher one", x.step(1, 1), due);
        Check.same(call + ": whyNot", x.whyNot(0, 1), due == 1 ? 0 : 3);
        Check.same(call + ": families", x.count(2), 2 - due);
    }

    private static void kin() {
        Sentences.begin("Kin", "0: if their numbers have a common divisor above 1");
        pair(0, 2, 2, 1);
        pair(0, 2, 3, 0);
        pair(0, 4, 6, 1);
        pair(0, 6, 4, 1);
        pair(0, 8, 9, 0);
        pair(0, 1, 1, 0);
        pair(0, 1, 9999, 0);
        pair(0, 9999, 1, 0);
        pair(0, 97, 9409, 1);
        pair(0, 9973, 9973, 1);
        pair(0, 9998, 9999, 0);
        Sentences.begin("Kin", "1: if the number of one of them is a multiple of that of the other one");
        pair(1, 2, 4, 1);
        pair(1, 4, 2, 1);
        pair(1, 4, 6, 0);
        pair(1, 6, 4, 0);
        pair(1, 5, 5, 1);
        pair(1, 1, 1, 1);
        pair(1, 1, 9999, 1);
        pair(1, 9999, 1, 1);
        pair(1, 3333, 9999, 1);
        pair(1, 9999, 3333, 1);
        pair(1, 5000, 9999, 0);
        Sentences.begin("Kin", "2: if the number of the higher step is a multiple of that of the lower one.");
        pair(2, 2, 4, 1);
        pair(2, 4, 2, 0);
        pair(2, 4, 6, 0);
        pair(2, 5, 5, 1);
        pair(2, 1, 1, 1);
        pair(2, 1, 9999, 1);
        pair(2, 9999, 1, 0);
        pair(2, 3333, 9999, 1);
        pair(2, 9999, 3333, 0);
    }

    private static void family(StairKin x, int step, int lowest, int many) {
        Check.same("the lowest one of the family of " + step, x.step(step, 2), lowest);
        Check.same("how many the family of " + step + " has", x.step(step, 3), many);
    }

    private static void families() {
        Sentences.begin("Kin", "two steps are of the same family, if they are the same");
        StairKin x = stairs(1);
        family(x, 0, 0, 1);
        x = stairs(2, 3, 1, 1, 5);
        for (int step = 0; step < 5; step++) {
            family(x, step, step, 1);
        }
        Check.same("families", x.count(2), 5);

        Sentences.begin("Kin", "by steps each of which is kin to the next one (wherever they are)");
        x = stairs(6, 143, 15, 221, 35, 323, 77, 437, 1517, 667, 1147, 899);
        x.set(StairKin.STRIDE, 1);
        for (int step = 0; step < 12; step++) {
            family(x, step, 0, 12);
        }
        Check.same("families", x.count(2), 1);
        x.take(5);
        for (int step : new int[] {0, 1, 2, 3, 4, 5}) {
            family(x, step, 0, 6);
        }
        for (int step : new int[] {6, 7, 8, 9, 10}) {
            family(x, step, 6, 5);
        }
        Check.same("families without the link", x.count(2), 2);
        x = stairs(7, 4, 9, 1, 36, 14);
        x.set(StairKin.RULE, 2);
        family(x, 2, 0, 6);
        x.take(3);
        family(x, 2, 1, 3);
        family(x, 4, 0, 2);
    }

    private static void crown() {
        Sentences.begin("Kin", "The crown has the step with the most kin");
        Check.same("the lowest one", stairs(6, 2, 3, 9973).crown(), 0);
        Check.same("the highest one", stairs(9973, 2, 3, 6).crown(), 3);
        Check.same("a single one", stairs(1).crown(), 0);
        Sentences.begin("Kin", "of several the one with the greatest number");
        Check.same("the highest one", stairs(4, 6, 8).crown(), 2);
        Check.same("the lowest one", stairs(8, 6, 4).crown(), 0);
        Check.same("without kin", stairs(7, 1, 9973, 5).crown(), 2);
        Sentences.begin("Kin", "of these the lowest one.");
        Check.same("of two", stairs(4, 8, 6, 8).crown(), 1);
        Check.same("of twelve", alike(12, 9999).crown(), 0);
        Check.same("without kin", stairs(1, 1, 1).crown(), 0);
    }

    private static void climbs() {
        Sentences.begin("Climbs", "A climb from a step to a step that is not lower");
        StairKin x = stairs(2, 4, 6);
        Check.same("climbs to a lower step", x.climbs(1, 0, 0), INVALID);
        Check.same("climb to a lower step", x.climb(1, 0, 0, 0), INVALID);
        Check.same("climbAt to a lower step", x.climbAt(1, 0, 0, 0), INVALID);
        Check.same("climbs to the same step", x.climbs(1, 1, 0), 1);
        Check.same("climbs to the next step", x.climbs(1, 2, 0), 1);
        Sentences.begin("Climbs", "is a row of steps that begins with the one and ends with the other");
        path("from the bottom", x, 0, 1, 0, 0, 1);
        path("to the top", x, 1, 2, 0, 1, 2);
        path("from the bottom to the top", x, 0, 2, 0, 0, 1, 2);
        Sentences.begin("Climbs", "(just this step, if both are the same)");
        x = stairs(7, 1, 9999);
        for (int step = 0; step < 3; step++) {
            for (int way = 0; way < 2; way++) {
                Check.same("climbs(" + step + ", " + step + ", " + way + ")", x.climbs(step, step, way), 1);
            }
            for (int kind = 0; kind < 3; kind++) {
                path("from a step to it", x, step, step, kind, step);
                Check.same("sum", x.climb(step, step, kind, 1), x.step(step, 0));
                Check.same("common divisor", x.climb(step, step, kind, 2), x.step(step, 0));
            }
        }
    }

    private static void strides() {
        Sentences.begin("Climbs", "in which each next step is higher than the one before, by at most STRIDE");
        for (int stride = 1; stride <= 4; stride++) {
            for (int far = 1; far <= 5; far++) {
                int[] numbers = new int[far + 1];
                java.util.Arrays.fill(numbers, 1);
                numbers[0] = 2;
                numbers[far] = 2;
                StairKin x = stairs(numbers);
                x.set(StairKin.STRIDE, stride);
                int due = far <= stride ? 1 : 0;
                String call = "a step that is " + far + " higher, by the stride " + stride;
                Check.same(call, x.climbs(0, far, 0), due);
                Check.same(call + ", going", x.climbs(0, far, 1), due);
                Check.same(call + ", climb", x.climb(0, far, 2, 0), due == 1 ? 2 : NOT_FOUND);
                Check.same(call + ", whyNot", x.whyNot(0, far), due == 1 ? 0 : 2);
                Check.same(call + ", longest", x.longest(0), 1 + due);
            }
        }
        Sentences.begin("Climbs", "and kin to it.");
        StairKin x = stairs(2, 6, 3);
        x.set(StairKin.STRIDE, 1);
        path("the ends need not be kin", x, 0, 2, 0, 0, 1, 2);
        x = stairs(2, 3, 6);
        path("by the stride 2", x, 0, 2, 0, 0, 2);
        x.set(StairKin.STRIDE, 1);
        Check.same("no climb over what is not kin", x.climbs(0, 2, 0), 0);
        Check.same("no climb over what is not kin", x.climb(0, 2, 0, 0), NOT_FOUND);
        x = stairs(4, 2);
        x.set(StairKin.RULE, 2);
        Check.same("no climb by the rule 2", x.climbs(0, 1, 1), 0);
        x.set(StairKin.RULE, 1);
        Check.same("a climb by the rule 1", x.climbs(0, 1, 1), 1);
    }

    private static void kindsOfClimbs() {
        Sentences.begin("Climbs", "the longest one is the one with the most steps");
        path("all of them", alike(12, 6), 0, 11, 0, 0, 1, 2, 3, 4, 5, 6, 7, 8, 9, 10, 11);
        StairKin x = stairs(6, 9999, 2, 2, 6);
        x.set(StairKin.STRIDE, 3);
        path("more steps, a smaller sum", x, 0, 4, 0, 0, 2, 3, 4);
        Sentences.begin("Climbs", "the shortest one the one with the fewest");
        path("fewer steps, a greater sum", x, 0, 4, 1, 0, 1, 4);
        path("by leaps of two", alike(12, 6), 1, 11, 1, 1, 3, 5, 7, 9, 11);
        Sentences.begin("Climbs", "the heaviest one the one with the greatest sum of numbers");
        path("fewer steps, a greater sum", x, 0, 4, 2, 0, 1, 4);
        x = stairs(6, 9973, 2, 2, 6);
        x.set(StairKin.STRIDE, 3);
        path("of steps that can be climbed", x, 0, 4, 2, 0, 2, 3, 4);
        x.add(2, 9000);
        path("with a heavy step", x, 0, 5, 2, 0, 2, 3, 4, 5);
        path("by 1, the lower one", stairs(6, 9999, 9998, 6), 0, 3, 2, 0, 1, 3);
        path("by 1, the higher one", stairs(6, 9998, 9999, 6), 0, 3, 2, 0, 2, 3);
    }

    private static void climbsOfAKind() {
        Sentences.begin("Climbs", "of several the one whose second step is the lowest");
        StairKin x = stairs(30, 2, 3, 4, 9, 6);
        path("longest", x, 0, 5, 0, 0, 1, 3, 5);
        path("shortest", x, 0, 5, 1, 0, 1, 3, 5);
        path("heaviest", stairs(30, 4, 3, 8, 9, 6), 0, 5, 2, 0, 1, 3, 5);
        x = stairs(6, 3, 2, 2, 3, 2, 6);
        x.set(StairKin.STRIDE, 3);
        path("heaviest, with fewer steps", x, 0, 6, 2, 0, 1, 4, 6);
        path("longest", x, 0, 6, 0, 0, 2, 3, 5, 6);
        x = stairs(6, 2, 3, 2, 3, 2, 6);
        path("heaviest, with more steps", x, 0, 6, 2, 0, 1, 3, 5, 6);
        Sentences.begin("Climbs", "of these the one whose third one is");
        x = stairs(30, 30, 2, 3, 4, 9, 6);
        path("longest", x, 0, 6, 0, 0, 1, 2, 4, 6);
        path("heaviest, as the sums differ", x, 0, 6, 2, 0, 1, 3, 5, 6);
        path("heaviest", stairs(30, 30, 4, 3, 8, 9, 6), 0, 6, 2, 0, 1, 2, 4, 6);
        path("shortest", stairs(49, 210, 2, 3, 4, 9, 6), 0, 6, 1, 0, 1, 2, 4, 6);
        Sentences.begin("Climbs", "and so on.");
        x = stairs(30, 30, 30, 30, 2, 3, 4, 9, 6);
        path("longest, the fifth one", x, 0, 8, 0, 0, 1, 2, 3, 4, 6, 8);
        path("heaviest, the fifth one", stairs(30, 30, 30, 30, 4, 3, 8, 9, 6), 0, 8, 2, 0, 1, 2, 3, 4, 6, 8);
        path("shortest, the fourth one", stairs(121, 77, 210, 2, 3, 4, 9, 6), 0, 7, 1, 0, 1, 2, 3, 5, 7);
        path("shortest, all lowest", alike(12, 2), 0, 11, 1, 0, 1, 3, 5, 7, 9, 11);
    }

    private static void shares() {
        Sentences.begin("Deeds", "the step i gets the greatest common divisor, the step i + 1 the least common multiple");
        StairKin x = stairs(35, 12, 18, 25);
        Check.same("share(1)", x.share(1), 6);
        numbers("share(1)", x, 35, 6, 36, 25);
        x.share(0);
        numbers("share(0), of none in common", x, 1, 210, 36, 25);
        x.share(1);
        numbers("share(1)", x, 1, 6, 1260, 25);
        x = stairs(4, 8, 5, 5, 1, 9999);
        for (int step : new int[] {0, 2, 4}) {
            x.share(step);
        }
        numbers("what is shared already", x, 4, 8, 5, 5, 1, 9999);
        Sentences.begin("Deeds", "(It is beyond a limit, if this would be above 9999.)");
        x = stairs(99, 101, 16, 625, 9999, 1, 9998, 9999);
        Check.same("9999", x.share(0), 1);
        Check.same("10000", x.share(2), LIMIT);
        Check.same("9999 below 1", x.share(4), 1);
        Check.same("far above", x.share(6), LIMIT);
        numbers("share", x, 1, 9999, 16, 625, 1, 9999, 9998, 9999);
    }

    private static void divisions() {
        Sentences.begin("Deeds", "the step i + 1, whose number has to be a multiple of that of the step i, gets the quotient");
        StairKin x = stairs(35, 12, 72, 25);
        Check.same("divide(1)", x.divide(1), 6);
        numbers("divide(1)", x, 35, 12, 6, 25);
        Check.same("a divisor, and no multiple", x.divide(1), NOT_POSSIBLE);
        Check.same("no multiple", x.divide(2), NOT_POSSIBLE);
        numbers("divide(1)", x, 35, 12, 6, 25);
        x = stairs(1, 9999);
        Check.same("by 1", x.divide(0), 9999);
        numbers("by 1", x, 1, 9999);
        Sentences.begin("Deeds", "the prime factors of the divisor become chips.");
        x = stairs(360, 2520, 1, 5);
        x.divide(0);
        Check.same("chips of 2", x.prime(2, 0), 3);
        Check.same("chips of 3", x.prime(3, 0), 2);
        Check.same("chips of 5", x.prime(5, 0), 1);
        Check.same("chips of 7, which is in the quotient", x.prime(7, 0), 0);
        Check.same("chips", x.count(5), 6);
        x.divide(2);
        Check.same("1 has no prime factor", x.count(5), 6);
        x = stairs(8192, 8192);
        x.divide(0);
        Check.same("chips of 2, thirteen at once", x.prime(2, 0), 13);
    }

    private static void strikes() {
        Sentences.begin("Deeds", "To strike a step by a prime, which has to divide its number: the number is divided by it");
        StairKin x = stairs(7, 360, 5);
        Check.same("strike", x.strike(1, 2), 180);
        numbers("divided once", x, 7, 180, 5);
        Check.same("strike by the greatest one", x.strike(1, 5), 36);
        Check.same("strike by what was struck off", x.strike(1, 5), NOT_POSSIBLE);
        Check.same("strike by what does not divide it", x.strike(1, 7), NOT_POSSIBLE);
        numbers("strikes", x, 7, 36, 5);
        Sentences.begin("Deeds", "the prime becomes a chip.");
        Check.same("chips of 2", x.prime(2, 0), 1);
        Check.same("chips of 5", x.prime(5, 0), 1);
        Check.same("chips of 3", x.prime(3, 0), 0);
        Check.same("chips", x.count(5), 2);
        x = stairs(9973);
        x.strike(0, 9973);
        Check.same("chips of 9973, whose step broke", x.prime(9973, 0), 1);
    }

    private static void breaks() {
        Sentences.begin("Deeds", "A step that bears 1 behind being divided or struck breaks: it is taken out");
        StairKin x = stairs(6, 6, 6, 5, 6);
        Check.same("divided by its own number", x.divide(1), 1);
        numbers("divided", x, 6, 6, 5, 6);
        Check.same("struck by its own number", x.strike(2, 5), 1);
        numbers("struck", x, 6, 6, 6);
        Check.same("broke", x.count(7), 2);
        x.divide(1);
        numbers("the highest one", x, 6, 6);
        x.strike(0, 2);
        Check.same("none broke", x.count(7), 3);
        x.strike(0, 3);
        numbers("the lowest one", x, 6);
        x.strike(0, 3);
        x.strike(0, 2);
        numbers("the only one", x);
        Check.same("broke", x.count(7), 5);
        x = alike(12, 7);
        x.divide(10);
        Check.same("of twelve", x.count(0), 11);
        Sentences.begin("Deeds", "(also if it bore 1 ahead of being divided by 1");
        x = stairs(1, 1, 1, 4);
        Check.same("1 by 1", x.divide(1), 1);
        numbers("1 by 1", x, 1, 1, 4);
        Check.same("1 by 1 again", x.divide(0), 1);
        numbers("1 by 1", x, 1, 4);
        Check.same("broke", x.count(7), 2);
        Check.same("chips", x.count(5), 0);
        Sentences.begin("Deeds", "nothing is taken off the accounts by this).");
        x = stairs(12, 12, 7);
        x.divide(0);
        x.strike(1, 7);
        Check.same("came of 2", x.prime(2, 1), 4);
        Check.same("came of 3", x.prime(3, 1), 2);
        Check.same("came of 7", x.prime(7, 1), 1);
        Check.same("chips of 2", x.prime(2, 0), 2);
        Check.same("chips of 3", x.prime(3, 0), 1);
        Check.same("chips of 7", x.prime(7, 0), 1);
    }

    private static void onesThatStay() {
        Sentences.begin("Deeds", "A step that bears 1 otherwise stays.");
        StairKin x = stairs(1);
        numbers("put in", x, 1);
        numbersRead(x, "1,8");
        numbers("read", x, 1, 1, 8);
        x.divide(1);
        numbers("the divisor", x, 1, 1, 8);
        x.strike(2, 2);
        numbers("those below", x, 1, 1, 4);
        x = stairs(4, 9, 1, 5);
        x.share(0);
        numbers("shared", x, 1, 36, 1, 5);
        x.share(1);
        numbers("shared", x, 1, 1, 36, 5);
        x.settle();
        numbers("settled", x, 1, 1, 1, 180);
        x.take(3);
        numbers("ones alone", x, 1, 1, 1);
        Check.same("broke", x.count(7), 0);
        x = stairs(1, 5, 1);
        x.strike(1, 5);
        numbers("beside one that breaks", x, 1, 1);
        x.undo();
        numbers("undo()", x, 1, 5, 1);
        x.save();
        Check.same("restore()", x.restore(), 3);
    }

    private static void chips() {
        Sentences.begin("Deeds", "Chips are kept by primes.");
        StairKin x = stairs(60, 60, 7);
        x.strike(0, 2);
        x.strike(0, 2);
        x.strike(1, 5);
        x.strike(2, 7);
        int[] primes = {2, 3, 5, 7, 11, 9973};
        int[] due = {2, 0, 1, 1, 0, 0};
        for (int place = 0; place < primes.length; place++) {
            Check.same("chips of " + primes[place], x.prime(primes[place], 0), due[place]);
        }
        x.take(0);
        x.take(0);
        Check.same("chips of 2 without steps", x.prime(2, 0), 2);
        Check.same("chips without steps", x.count(5), 4);
        x = new StairKin();
        int[] products = {2310, 4199, 667, 1147, 1763, 2491, 3599, 4757, 5767, 7387, 9797, 9973};
        for (int product : products) {
            x.add(0, product);
            x.add(1, product);
            x.divide(0);
            x.take(0);
        }
        Check.same("chips of many primes", x.count(5), 27);
        Check.same("many different primes", x.count(6), 27);
        for (int prime : new int[] {2, 11, 13, 29, 31, 43, 53, 59, 71, 79, 89, 97, 101, 9973}) {
            Check.same("chips of " + prime, x.prime(prime, 0), 1);
            Check.same("came of " + prime, x.prime(prime, 1), 1);
        }
    }

    private static void came() {
        Sentences.begin("Deeds", "how often it came: the exponents of the numbers of all steps that were put in so far");
        StairKin x = stairs(8, 12, 1);
        Check.same("came of 2", x.prime(2, 1), 5);
        Check.same("came of 3", x.prime(3, 1), 1);
        numbersRead(x, "16,9973");
        Check.same("came of 2 by read()", x.prime(2, 1), 9);
        Check.same("came of 9973", x.prime(9973, 1), 1);
        x.strike(0, 2);
        x.divide(0);
        x.share(0);
        Check.same("deeds bring none and take none", x.prime(2, 1), 9);
        Check.same("came of twelve", alike(12, 4).prime(2, 1), 24);
        for (int many = 0; many <= 40; many++) {
            cameBehind(many);
        }
        Sentences.begin("Deeds", "less those of the numbers of all steps that were taken off (by take())");
        numbers("behind the deeds", x, 1, 12, 1, 16, 9973);
        x.take(3);
        Check.same("came of 2", x.prime(2, 1), 5);
        x.take(1);
        Check.same("came of 2", x.prime(2, 1), 3);
        Check.same("came of 3", x.prime(3, 1), 0);
        x.strike(2, 9973);
        Check.same("a step that broke was not taken off", x.prime(9973, 1), 1);
        x.take(0);
        Check.same("1 has no exponents", x.prime(2, 1), 3);
        x = stairs(4, 6);
        x.share(0);
        x.take(1);
        Check.same("taken off is what it bears then: 2", x.prime(2, 1), 1);
        Check.same("taken off is what it bears then: 3", x.prime(3, 1), 0);
    }

    /** However many primes came before, the five of one number come, too. */
    private static void cameBehind(int many) {
        StairKin x = new StairKin();
        int prime = 9973;
        for (int came = 0; came < many; prime -= 2) {
            if (java.math.BigInteger.valueOf(prime).isProbablePrime(50)) {
                x.add(0, prime);
                x.strike(0, prime);
                came++;
            }
        }
        x.add(0, 2310);
        for (int factor : new int[] {2, 3, 5, 7, 11}) {
            Check.same("came of " + factor + " behind " + many + " others", x.prime(factor, 1), 1);
        }
        Check.same("came of the first one of " + many, x.prime(9973, 1), many == 0 ? 0 : 1);
        Check.same("different primes of chips", x.count(6), many);
    }

    private static void rounds() {
        Sentences.begin("Deeds", "A round of sharing is to share at the steps 0, 1, and so on, up to the last but one");
        StairKin x = stairs(4, 2, 1);
        Check.same("the greatest one is on the top behind one round", x.settle(), 2);
        numbers("settled", x, 1, 2, 4);
        x = stairs(4, 1, 2);
        Check.same("carried up in one round", x.settle(), 1);
        numbers("settled", x, 1, 2, 4);
        x = stairs(2, 4, 1);
        Check.same("carried down a step a round", x.settle(), 2);
        x = stairs(1, 2, 6, 4);
        Check.same("the last but one is shared at", x.settle(), 1);
        numbers("settled", x, 1, 2, 2, 12);
        Check.same("two steps", stairs(6, 4).settle(), 1);
    }

    private static void settled() {
        Sentences.begin("Deeds", "Stairs are settled, if the number of each step divides that of the next one.");
        int[][] yes = {{}, {7}, {1, 1}, {5, 5}, {1, 9999}, {3333, 9999}, {1, 2, 2, 6, 12, 9996}, {2, 4, 8}};
        for (int[] numbers : yes) {
            Check.same("settled: " + java.util.Arrays.toString(numbers), stairs(numbers).count(4), 1);
        }
        int[][] no = {{4, 2}, {4, 6}, {2, 1}, {3, 2, 4}, {2, 4, 6}, {1, 2, 4, 8, 7}, {2, 4, 3, 12}, {9999, 9998}};
        for (int[] numbers : no) {
            Check.same("settled: " + java.util.Arrays.toString(numbers), stairs(numbers).count(4), 0);
        }
        Check.same("twelve", stairs(1, 2, 4, 8, 16, 32, 64, 128, 256, 512, 1024, 2048).count(4), 1);
        Check.same("twelve", stairs(1, 2, 4, 8, 16, 32, 64, 128, 256, 512, 1024, 2047).count(4), 0);
    }

    private static void settings() {
        Sentences.begin("Settings", "(In parentheses: range; first value.) RULE (0 to 2; 0)");
        StairKin x = new StairKin();
        Check.same("RULE first", x.count(10), 0);
        for (int rule : new int[] {2, 1, 0}) {
            x.set(StairKin.RULE, rule);
            Check.same("RULE", x.count(10), rule);
        }
        Check.same("RULE -1", x.set(StairKin.RULE, -1), INVALID);
        Check.same("RULE 3", x.set(StairKin.RULE, 3), INVALID);
        Check.same("STRIDE beside it", x.count(11), 2);
        Sentences.begin("Settings", "STRIDE (1 to 4; 2)");
        x = new StairKin();
        Check.same("STRIDE first", x.count(11), 2);
        for (int stride : new int[] {1, 4, 3, 2}) {
            x.set(StairKin.STRIDE, stride);
            Check.same("STRIDE", x.count(11), stride);
        }
        Check.same("STRIDE 0", x.set(StairKin.STRIDE, 0), INVALID);
        Check.same("STRIDE 5", x.set(StairKin.STRIDE, 5), INVALID);
        Check.same("RULE beside it", x.count(10), 0);
    }
}
