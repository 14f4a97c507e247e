import java.util.Random;

/** What the document says first: what the class is, part by part, for how many calls, and which numbers it tells. */
final class FirstCases extends Cases {
    private static final String HEADING = "What it is";

    private FirstCases() {
    }

    static void all() {
        sharesAndDivisions();
        strikes();
        kin();
        climbs();
        whatWouldBe();
        texts();
        history();
        the512thCall();
        laterCalls();
        wholeNumbers();
    }

    private static void sharesAndDivisions() {
        Sentences.begin(HEADING, "Numbered stairs whose neighbours share or divide");
        StairKin x = stairs(60, 84, 5);
        Check.same("share(0)", x.share(0), 12);
        Check.same("divide(0)", x.divide(0), 35);
        numbers("shared and divided", x, 12, 35, 5);
        Sentences.begin(HEADING, "steps that bear numbers");
        Check.same("step(1, 0)", x.step(1, 0), 35);
        Check.same("take(1)", x.take(1), 35);
        Sentences.begin(HEADING, "two steps that share what they have in common");
        x = stairs(12, 18);
        Check.same("common(0, 1, 0)", x.common(0, 1, 0), 6);
        Check.same("share(0)", x.share(0), 6);
        numbers("shared", x, 6, 36);
        Sentences.begin(HEADING, "a step that is divided by the one below it");
        Check.same("divide(0)", x.divide(0), 6);
        numbers("divided", x, 6, 6);
        Sentences.begin(HEADING, "rounds of sharing until each step divides the next one");
        x = stairs(9, 6, 4);
        Check.same("settle()", x.settle(), 2);
        numbers("settled", x, 1, 6, 36);
        Check.same("count(4)", x.count(4), 1);
    }

    private static void strikes() {
        Sentences.begin(HEADING, "steps that are struck by primes until they break");
        StairKin x = stairs(5, 12);
        Check.same("strike(1, 2)", x.strike(1, 2), 6);
        Check.same("strike(1, 3)", x.strike(1, 3), 2);
        Check.same("strike(1, 2)", x.strike(1, 2), 1);
        numbers("it broke", x, 5);
        Sentences.begin(HEADING, "chips that are kept by primes");
        Check.same("chips of 2", x.prime(2, 0), 2);
        Check.same("chips of 3", x.prime(3, 0), 1);
        Check.same("chips of 5", x.prime(5, 0), 0);
        Sentences.begin(HEADING, "accounts of primes");
        int[][] due = {{2, 2, 0, 0, 0}, {1, 1, 0, 0, 0}, {0, 1, 1, 1, 1}};
        int[] primes = {2, 3, 5};
        for (int place = 0; place < primes.length; place++) {
            for (int what = 0; what < 5; what++) {
                Check.same("prime(" + primes[place] + ", " + what + ")", x.prime(primes[place], what), due[place][what]);
            }
        }
    }

    private static void kin() {
        Sentences.begin(HEADING, "kin by three rules");
        StairKin x = stairs(12, 8, 4);
        int[] pairs = {3, 2, 0};
        for (int rule = 0; rule < pairs.length; rule++) {
            x.set(StairKin.RULE, rule);
            Check.same("pairs by rule " + rule, x.count(1), pairs[rule]);
        }
        Sentences.begin(HEADING, "families of kin");
        x = stairs(6, 35, 10, 11, 9);
        Check.same("families", x.count(2), 2);
        Check.same("steps of the greatest one", x.count(3), 4);
        Check.same("the family of 9", x.step(4, 2), 0);
        Check.same("the family of 11", x.step(3, 2), 3);
        Sentences.begin(HEADING, "the step that has the crown");
        Check.same("10 rather than 6: both have two kin", x.crown(), 2);
    }

    private static void climbs() {
        Sentences.begin(HEADING, "climbs over kin by strides");
        StairKin x = stairs(2, 4, 8, 3, 16);
        int[] many = {0, 2, 3, 4};
        for (int stride = 1; stride <= many.length; stride++) {
            x.set(StairKin.STRIDE, stride);
            Check.same("climbs by stride " + stride, x.climbs(0, 4, 0), many[stride - 1]);
        }
        Sentences.begin(HEADING, "the longest, the shortest and the heaviest climb");
        x = stairs(6, 2, 4, 99, 6);
        x.set(StairKin.STRIDE, 4);
        path("the longest one", x, 0, 4, 0, 0, 1, 2, 4);
        path("the shortest one", x, 0, 4, 1, 0, 4);
        path("the heaviest one", x, 0, 4, 2, 0, 3, 4);
        Sentences.begin(HEADING, "how many climbs there are, told in two ways");
        Check.same("climbs(0, 4, 0)", x.climbs(0, 4, 0), 5);
        Check.same("climbs(0, 4, 1)", x.climbs(0, 4, 1), 5);
        Sentences.begin(HEADING, "why a climb cannot go on");
        x.set(StairKin.STRIDE, 2);
        Check.same("it can", x.whyNot(0, 2), 0);
        Check.same("it is not higher", x.whyNot(2, 0), 1);
        Check.same("it is too far", x.whyNot(0, 4), 2);
        Check.same("they are not kin", x.whyNot(1, 3), 3);
    }

    private static void whatWouldBe() {
        Sentences.begin(HEADING, "what a strike or a share would bring");
        StairKin x = stairs(4, 9, 6);
        Check.same("families behind a share of 4 and 9", x.ifDone(0, 0, 1), 2);
        Check.same("pairs of kin behind a strike of 6 by 3", x.ifDone(2, 2, 0), 1);
        Check.same("4 may lose a 2, or 9 a 3", x.bestStrike(), 2);
        numbers("nothing is done", x, 4, 9, 6);
    }

    private static void texts() {
        Sentences.begin(HEADING, "numbers and deeds that are read from texts");
        StairKin x = new StairKin();
        Check.same("read()", numbersRead(x, "60,84"), 2);
        Check.same("carryOut()", deeds(x, "s0;k0.3"), 2);
        numbers("read, and carried out", x, 4, 420);
        Sentences.begin(HEADING, "with the places of faults");
        write(x, "60,084");
        Check.same("as numbers", x.fault(0), 3);
        write(x, "s0;k0,3");
        Check.same("as deeds", x.fault(1), 5);
        Sentences.begin(HEADING, "and the reasons of stops");
        Check.same("carryOut()", deeds(x, "d0;k1.11"), 1);
        Check.same("11 does not divide 105", x.why(0), NOT_POSSIBLE);
        Check.same("its number", x.why(1), 1);
        Check.same("its position", x.why(2), 3);
    }

    private static void history() {
        Sentences.begin(HEADING, "undo, and a snapshot.");
        StairKin x = stairs(6, 5);
        x.save();
        x.take(0);
        Check.same("undo()", x.undo(), 2);
        numbers("undo()", x, 6, 5);
        x.undo();
        numbers("undo()", x, 6);
        Check.same("restore()", x.restore(), 2);
        numbers("restore()", x, 6, 5);
    }

    private static void the512thCall() {
        Sentences.begin(HEADING, "An object is used for at most 512 calls after it has been made");
        StairKin x = new StairKin();
        x.save();
        for (int turn = 0; turn < 169; turn++) {
            Check.same("add", x.add(0, 9973), 1);
            Check.same("add", x.add(0, 9973), 2);
            Check.same("restore", x.restore(), 0);
        }
        Check.same("call 509", x.add(0, 8192), 1);
        Check.same("call 510", x.count(13), 4);
        Check.same("call 511", x.prime(2, 1), 13);
        Check.same("call 512", x.undo(), 3);
    }

    /** Whatever they answer, the machine never throws in them, and each one comes to its end. */
    private static void laterCalls() {
        Sentences.begin(HEADING, "what later calls answer is free.");
        StairKin x = new StairKin();
        int answers = 0;
        for (int number = 2; number <= 9999; number++) {
            // All primes there are, so that the accounts get as long as they can.
            if (x.add(0, number) > 0 && x.prime(number, 0) >= 0) {
                x.strike(0, number);
                answers++;
            }
            x.take(0);
            x.save();
        }
        Random random = new Random(512);
        for (int turn = 0; turn < 4000; turn++) {
            int one = random.nextInt(14) - 1;
            int other = random.nextInt(14) - 1;
            x.add(one, 1 + random.nextInt(9999));
            x.add(one, 1 << random.nextInt(14));
            answers += x.share(one) + x.divide(other) + x.strike(one, 2) + x.set(turn % 2, other % 5) + x.append(40 + one);
            answers += x.fault(turn % 2) + x.read() + x.carryOut() + x.climbs(one, other, 1) + x.climb(one, other, turn % 3, 1);
            answers += x.count(turn % 14) + x.ifDone(turn % 3, one, turn % 4) + x.longest(2) + x.bestStrike() + x.crown();
            if (turn % 11 == 0) {
                answers += x.settle() + x.restore() + x.undo() + x.undo() + x.save() + x.clear() + x.take(0) + x.take(0);
            }
        }
        Check.same("all calls came back, answers " + answers, x.count(0) >= 0 ? 1 : 0, 1);
    }

    private static void wholeNumbers() {
        Sentences.begin("Terms", "All numbers are whole numbers, but where a double is told.");
        StairKin x = stairs(2, 4, 9);
        Check.same("mean()", x.mean(), 2.0 / 3.0);
        x.add(3, 6);
        Check.same("mean()", x.mean(), 2.0);
        for (java.lang.reflect.Method method : StairKin.class.getDeclaredMethods()) {
            if (java.lang.reflect.Modifier.isPublic(method.getModifiers())) {
                String due = method.getName().equals("mean") ? "double" : "int";
                Check.same(method.getName() + "()", method.getReturnType().getName(), due);
                for (Class<?> type : method.getParameterTypes()) {
                    Check.same(method.getName() + "() takes", type.getName(), "int");
                }
            }
        }
    }
}
