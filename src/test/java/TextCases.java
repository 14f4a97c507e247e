/** "Texts" and promises 9 to 14, sentence by sentence: append, clear, fault, read, carryOut, why. */
final class TextCases extends Cases {
    private static final int NUMBERS = 0;
    private static final int DEEDS = 1;

    /** Texts of 60 characters, which is all that the pad takes. */
    private static final String FULL_DEEDS = "s0;".repeat(18) + "s11;s1";
    private static final String FULL_NUMBERS = "1,".repeat(29) + "11";

    private TextCases() {
    }

    static void all() {
        pad();
        numberTexts();
        deedTexts();
        strikeTexts();
        needlessNoughts();
        wrongCharacters();
        incomplete();
        append();
        clear();
        fault();
        read();
        readErrors();
        carryOut();
        carryOutAsTheCalls();
        carryOutErrors();
        why();
        whyAnswers();
    }

    private static void fault(String text, int way, int due) {
        StairKin x = new StairKin();
        write(x, text);
        Check.same("fault(" + way + ") of \"" + text + "\"", x.fault(way), due);
    }

    /** The text has no fault, read in this way. */
    private static void whole(int way, String... texts) {
        for (String text : texts) {
            fault(text, way, NOT_FOUND);
        }
    }

    /** The fault of the text is its length: it begins well, but more has to come. */
    private static void begun(int way, String... texts) {
        for (String text : texts) {
            fault(text, way, text.length());
        }
    }

    /** The last character of the text is the first wrong one, also if more follow. */
    private static void wrongAtItsEnd(int way, String... texts) {
        for (String text : texts) {
            fault(text, way, text.length() - 1);
            fault(text + "1", way, text.length() - 1);
            fault(text + ";s0,1", way, text.length() - 1);
        }
    }

    private static void pad() {
        Sentences.begin("Texts", "There is a pad of at most 60 characters, initially empty.");
        StairKin x = new StairKin();
        Check.same("length first", x.count(12), 0);
        Check.same("clear() first", x.clear(), 0);
        Check.same("read() first", x.read(), NOT_POSSIBLE);
        for (int length = 1; length <= 60; length++) {
            Check.same("append", x.append('1'), length);
        }
        Check.same("append to 60", x.append('1'), LIMIT);
        Check.same("length", x.count(12), 60);
        Sentences.begin("Texts", "It can be read in two ways.");
        fault("7,8", NUMBERS, NOT_FOUND);
        fault("7,8", DEEDS, 0);
        fault("s7", DEEDS, NOT_FOUND);
        fault("s7", NUMBERS, 0);
    }

    private static void numberTexts() {
        Sentences.begin("Texts", "Numbers: one or more numbers from 1 to 9999");
        begun(NUMBERS, "");
        whole(NUMBERS, "1", "2", "9", "10", "99", "100", "999", "1000", "9999", "1,1", "9999,1", "1,2,3,4,5,6,7,8,9,10,11,12,13");
        wrongAtItsEnd(NUMBERS, "0", "10000", "99990", "99999", "1,0", "1,10000", "9999,99999", "1000,12345");
        whole(NUMBERS, FULL_NUMBERS, "1,".repeat(29) + "1", "9999,".repeat(11) + "9999");
        fault("9999,".repeat(11) + "99999", NUMBERS, 59);
        Sentences.begin("Texts", "with \",\" between two.");
        wrongAtItsEnd(NUMBERS, ",", "1,,", "1;", "1.", "1/", "1:", "1+", "1-", "1!", "1~", "12,3;");
        begun(NUMBERS, "1,", "9999,", "1,2,");
    }

    private static void deedTexts() {
        Sentences.begin("Texts", "Deeds: one or more deeds");
        begun(DEEDS, "");
        whole(DEEDS, "s0", "s0;s0", "d1;s2;k3.4;d5", FULL_DEEDS);
        Sentences.begin("Texts", "with \";\" between two");
        wrongAtItsEnd(DEEDS, ";", "s0;;", "s0,", "s0.", "s0s", "s0:", "s0<", "k0.2,", "k0.2.", "d11,", "s10s", "k0.9999k");
        begun(DEEDS, "s0;", "s0;d1;", "k0.2;");
        Sentences.begin("Texts", "\"s\" and a number 0 to 11 (share there)");
        begun(DEEDS, "s", "s1;s");
        numbersTo11("s");
        Sentences.begin("Texts", "\"d\" and a number 0 to 11 (divide there)");
        begun(DEEDS, "d", "s1;d");
        numbersTo11("d");
        wrongAtItsEnd(DEEDS, "S", "D", "K", "a", "c", "e", "j", "l", "r", "t", "1", "!", "~", "s0;x", "s0;1");
    }

    private static void numbersTo11(String letter) {
        for (int number = 0; number <= 11; number++) {
            whole(DEEDS, letter + number, "k0.2;" + letter + number);
        }
        wrongAtItsEnd(DEEDS, letter + "12", letter + "13", letter + "19", letter + "20", letter + "99", letter + "110",
                letter + "100", letter + "111", letter + "-", letter + "/", letter + ":", letter + ";", letter + letter);
    }

    private static void strikeTexts() {
        Sentences.begin("Texts", "or \"k\", a number 0 to 11, \".\"");
        begun(DEEDS, "k", "k0", "k1", "k10", "k11", "k0.", "k9.", "k11.", "s0;k");
        for (int number = 0; number <= 11; number++) {
            whole(DEEDS, "k" + number + ".2");
        }
        wrongAtItsEnd(DEEDS, "k12", "k20", "k110", "k.", "k;", "k0;", "k0,", "k0/", "k0..", "k0.;", "k11;");
        Sentences.begin("Texts", "and a number 2 to 9999 (the step is struck by it).");
        begun(DEEDS, "k0.1");
        whole(DEEDS, "k0.2", "k0.3", "k0.4", "k0.9", "k0.10", "k0.11", "k0.19", "k0.99", "k0.100", "k0.1000", "k0.9973",
                "k0.9999", "k11.9999");
        wrongAtItsEnd(DEEDS, "k0.0", "k0.1;", "k0.1.", "k0.10000", "k0.99990", "k0.20000", "k11.12345");
    }

    private static void needlessNoughts() {
        Sentences.begin("Texts", "Numbers have no needless 0 ahead.");
        fault("01", NUMBERS, 0);
        fault("1,01", NUMBERS, 2);
        fault("00", NUMBERS, 0);
        whole(NUMBERS, "10", "100", "1000", "101", "1,10");
        fault("s00", DEEDS, 2);
        fault("s01", DEEDS, 2);
        fault("d00", DEEDS, 2);
        fault("d011", DEEDS, 2);
        fault("k00.2", DEEDS, 2);
        fault("k01.2", DEEDS, 2);
        fault("k0.02", DEEDS, 3);
        whole(DEEDS, "s0", "d0", "k0.2", "s10", "k10.10", "k0.1000");
    }

    private static void wrongCharacters() {
        Sentences.begin("Texts", "is the position, from 0, of the first character that is wrong");
        fault("x", NUMBERS, 0);
        fault("1x,y", NUMBERS, 1);
        fault("1,2,3,x,x", NUMBERS, 6);
        fault("x", DEEDS, 0);
        fault("s0;x;y", DEEDS, 3);
        fault("s0;d1;k2.3x", DEEDS, 10);
        Sentences.begin("Texts", "no pad of that kind, of any length, begins with the characters before it and this character");
        // A pad has no room for more, but a longer one would go on.
        fault("1,".repeat(30), NUMBERS, 60);
        fault("s0;".repeat(20), DEEDS, 60);
        fault("s0;".repeat(19) + "s1;", DEEDS, 60);
        fault("s0;".repeat(19) + "s12", DEEDS, 59);
        fault("s0;".repeat(19) + "k0.", DEEDS, 60);
        fault("s11;" + "s0;".repeat(18) + "k0", DEEDS, 60);
        fault("s11;" + "s0;".repeat(18) + "k;", DEEDS, 59);
        fault("9999,".repeat(12), NUMBERS, 60);
        fault("1".repeat(60), NUMBERS, 4);
        // More steps than the stairs take are no fault.
        whole(NUMBERS, "1,1,1,1,1,1,1,1,1,1,1,1,1", FULL_NUMBERS);
    }

    private static void incomplete() {
        Sentences.begin("Texts", "if there is none, and the pad is not complete (also if it is empty), the length of the pad.");
        begun(NUMBERS, "", "1,", "12,", "9999,9999,");
        begun(DEEDS, "", "s", "d", "k", "k1", "k1.", "k1.1", "s0;", "k1.2;", "s0;s", "s0;k11.", "s0;k11.1");
        whole(NUMBERS, "1", "12");
        whole(DEEDS, "s0", "k1.2", "s0;s1");
    }

    private static void append() {
        Sentences.begin("Promise 9", "Appends a character to the pad.");
        StairKin x = new StairKin();
        for (int code : new int[] {'4', ',', '6'}) {
            x.append(code);
        }
        Check.same("read() of 4,6", x.read(), 2);
        numbers("read() of 4,6", x, 4, 6);
        Sentences.begin("Promise 9", "`code`: the character code, 33 to 126");
        range("append", 33, 126, () -> rich(), (y, value) -> y.append(value));
        range("append to a full pad", 33, 126, () -> rich(FULL_DEEDS), (y, value) -> y.append(value));
        x = new StairKin();
        for (int code = 33; code <= 126; code++) {
            x.clear();
            Check.same("append(" + code + ")", x.append(code), 1);
            Check.same("fault(0) of " + code, x.fault(0), code >= '1' && code <= '9' ? NOT_FOUND : 0);
            Check.same("fault(1) of " + code, x.fault(1), code == 's' || code == 'd' || code == 'k' ? 1 : 0);
        }
        Sentences.begin("Promise 9", "Returns the length of the pad then");
        x = rich("");
        for (int length = 1; length <= 60; length++) {
            Check.same("append", x.append(33 + length), length);
            Check.same("count(12)", x.count(12), length);
        }
        Sentences.begin("Promise 9", "INVALID_ARGUMENT");
        for (int code : new int[] {32, 127, 0, -1, 10, 160, 33 + 256, 33 + 65536}) {
            refused("append(" + code + ")", INVALID, () -> rich("s0"), y -> y.append(code));
        }
        refused("append(32) to a new pad", INVALID, () -> new StairKin(), y -> y.append(32));
        Sentences.begin("Promise 9", "LIMIT_REACHED if it has 60 characters");
        refused("append to 60", LIMIT, () -> rich(FULL_DEEDS), y -> y.append('0'));
        refused("append to 60", LIMIT, () -> full(FULL_NUMBERS), y -> y.append(','));
        Check.same("append to 59", rich(FULL_DEEDS.substring(0, 59)).append('1'), 60);
    }

    private static void clear() {
        Sentences.begin("Promise 10", "Empties the pad.");
        StairKin x = rich("4,6");
        x.clear();
        Check.same("count(12)", x.count(12), 0);
        Check.same("fault(0)", x.fault(0), 0);
        x.append('7');
        x.read();
        Check.same("none of it is read", x.step(6, 0), 7);
        Check.same("none of it is read", x.count(0), 7);
        Sentences.begin("Promise 10", "Returns the length that it had.");
        Check.same("clear() of the empty pad", new StairKin().clear(), 0);
        Check.same("clear() of one", rich("4").clear(), 1);
        Check.same("clear() of 60", rich(FULL_DEEDS).clear(), 60);
        x = rich(FULL_NUMBERS);
        x.clear();
        Check.same("clear() again", x.clear(), 0);
        Check.same("append behind clear() of 60", x.append('1'), 1);
    }

    private static void fault() {
        Sentences.begin("Promise 11", "Returns the fault of the pad.");
        kept("fault(0)", () -> rich("4,6,"), x -> x.fault(0));
        kept("fault(1)", () -> rich("s0;k1.3;d0"), x -> x.fault(1));
        kept("fault(1) of the full pad", () -> rich(FULL_DEEDS), x -> x.fault(1));
        Sentences.begin("Promise 11", "`way`: 0 if it is read as numbers, 1 if it is read as deeds");
        range("fault", 0, 1, () -> rich("s0"), (x, value) -> x.fault(value));
        fault("4", NUMBERS, NOT_FOUND);
        fault("s4", DEEDS, NOT_FOUND);
        Sentences.begin("Promise 11", "Returns the fault; ");
        fault("4,x", NUMBERS, 2);
        fault("s4;x", DEEDS, 3);
        StairKin x = new StairKin();
        write(x, "4,5");
        Check.same("fault(0)", x.fault(0), NOT_FOUND);
        x.append('s');
        Check.same("fault(0) with one character more", x.fault(0), 3);
        Check.same("fault(1)", x.fault(1), 0);
        Check.same("fault(0) again", x.fault(0), 3);
        x.clear();
        Check.same("fault(0) of the empty pad", x.fault(0), 0);
        Check.same("fault(1) of the empty pad", x.fault(1), 0);
        Sentences.begin("Promise 11", "INVALID_ARGUMENT");
        for (int way : new int[] {-1, 2, LEAST, MOST}) {
            refused("fault(" + way + ")", INVALID, () -> rich("4"), y -> y.fault(way));
            refused("fault(" + way + ") of the empty pad", INVALID, () -> new StairKin(), y -> y.fault(way));
        }
        Sentences.begin("Promise 11", "NOT_FOUND if it has none");
        refused("fault(0)", NOT_FOUND, () -> rich("4"), y -> y.fault(0));
        refused("fault(1)", NOT_FOUND, () -> rich(FULL_DEEDS), y -> y.fault(1));
        refused("fault(0) of the full pad", NOT_FOUND, () -> rich(FULL_NUMBERS), y -> y.fault(0));
    }

    private static void read() {
        Sentences.begin("Promise 12", "Puts steps with the numbers of the pad on the top, one above the other");
        StairKin x = stairs(7, 5);
        numbersRead(x, "9999,1,12");
        numbers("read()", x, 7, 5, 9999, 1, 12);
        x = new StairKin();
        numbersRead(x, "1");
        numbers("read() without steps", x, 1);
        numbersRead(x, "2,3,4,5,6,7,8,9,10,100,1000");
        numbers("read() of eleven", x, 1, 2, 3, 4, 5, 6, 7, 8, 9, 10, 100, 1000);
        Sentences.begin("Promise 12", "and empties the pad.");
        Check.same("count(12)", x.count(12), 0);
        Check.same("clear()", x.clear(), 0);
        Check.same("read() again", x.read(), NOT_POSSIBLE);
        Sentences.begin("Promise 12", "Returns how many steps there are then");
        x = new StairKin();
        Check.same("one", numbersRead(x, "5"), 1);
        Check.same("three more", numbersRead(x, "5,6,7"), 4);
        Check.same("eight more", numbersRead(x, "1,1,1,1,1,1,1,1"), 12);
        Check.same("one change each", x.count(13), 3);
        Check.same("undo() of eight", x.undo(), 2);
        numbers("undo() of eight", x, 5, 5, 6, 7);
        Check.same("the pad is not as before", x.count(12), 0);
    }

    private static void readErrors() {
        Sentences.begin("Promise 12", "NOT_POSSIBLE if the pad has a fault, read as numbers");
        refused("read() of the empty pad", NOT_POSSIBLE, () -> new StairKin(), x -> x.read());
        for (String text : new String[] {"", "4,", "4,6,", ",4", "0", "04", "10000", "4;6", "s0", "k1.3", "4,6,x", FULL_DEEDS}) {
            refused("read() of \"" + text + "\"", NOT_POSSIBLE, () -> rich(text), x -> x.read());
        }
        refused("read() of 60 with a fault at the end", NOT_POSSIBLE, () -> rich("1,".repeat(30)), x -> x.read());
        refused("read() with a fault behind too many", NOT_POSSIBLE, () -> full("1,1,x"), x -> x.read());
        Sentences.begin("Promise 12", "LIMIT_REACHED if there would be more than 12.");
        Check.same("12 to none", numbersRead(new StairKin(), "1,1,1,1,1,1,1,1,1,1,1,1"), 12);
        Check.same("6 to 6", rich("1,1,1,1,1,1").read(), 12);
        Check.same("1 to 11", numbersRead(alike(11, 3), "1"), 12);
        refused("1 to 12", LIMIT, () -> full("1"), x -> x.read());
        refused("7 to 6", LIMIT, () -> rich("1,1,1,1,1,1,1"), x -> x.read());
        refused("30 to 6", LIMIT, () -> rich(FULL_NUMBERS), x -> x.read());
        refused("13 to none", LIMIT, () -> {
            StairKin x = new StairKin();
            write(x, "1,1,1,1,1,1,1,1,1,1,1,1,1");
            return x;
        }, x -> x.read());
        refused("2 to 11", LIMIT, () -> {
            StairKin x = alike(11, 6);
            write(x, "9999,9999");
            return x;
        }, x -> x.read());
    }

    private static void carryOut() {
        Sentences.begin("Promise 13", "Carries out the deeds of the pad, one after the other");
        StairKin x = stairs(12, 18, 7);
        deeds(x, "s0;d0;k2.7;k1.3");
        numbers("share, divide, strike, strike", x, 6, 2);
        x = stairs(4, 2);
        deeds(x, "s0;d0");
        numbers("share ahead of divide", x, 2, 2);
        x = stairs(4, 2);
        deeds(x, "k0.2;d0;k0.2");
        numbers("each deed meets what the one before left", x);
        x = stairs(2, 6, 30);
        deeds(x, "d1;d0");
        numbers("from above", x, 2, 3, 5);
        Sentences.begin("Promise 13", "up to the first one that returns an error");
        x = stairs(12, 18, 7);
        Check.same("the second one", deeds(x, "s0;k0.5;k2.7"), 1);
        numbers("none behind it", x, 6, 36, 7);
        Sentences.begin("Promise 13", ", and empties the pad.");
        Check.same("count(12)", x.count(12), 0);
        Check.same("carryOut() again", x.carryOut(), NOT_POSSIBLE);
        deeds(x, "d0");
        Check.same("count(12) if all were carried out", x.count(12), 0);
        deeds(x, "s11");
        Check.same("count(12) if none was carried out", x.count(12), 0);
        Sentences.begin("Promise 13", "This is one change, also if none is carried out.");
        x = stairs(360, 360);
        deeds(x, "k0.2;k0.2;k0.3");
        Check.same("three deeds", x.count(13), 3);
        Check.same("undo()", x.undo(), 2);
        numbers("undo()", x, 360, 360);
        Check.same("chips", x.count(5), 0);
        deeds(x, "k0.7;k0.2");
        Check.same("none is carried out", x.count(13), 3);
        numbers("none is carried out", x, 360, 360);
        Check.same("undo()", x.undo(), 2);
        Check.same("without steps", deeds(new StairKin(), "d0"), 0);
        x = new StairKin();
        deeds(x, "k11.9999");
        Check.same("history without steps", x.count(13), 1);
    }

    private static void carryOutAsTheCalls() {
        Sentences.begin("Promise 13", "as share(), divide() and strike() do");
        int[][] numbers = {{12, 18, 7}, {7, 7, 9973}, {1, 1, 6}, {99, 101, 2}, {16, 625, 3}, {8192, 8192, 1}, {5, 4, 9999}};
        for (int[] row : numbers) {
            for (int step = 0; step < 4; step++) {
                StairKin x = stairs(row);
                asTheCall("s" + step, row, x.share(step), x);
                x = stairs(row);
                asTheCall("d" + step, row, x.divide(step), x);
                for (int prime : new int[] {2, 3, 4, 7, 101, 9973, 9999}) {
                    x = stairs(row);
                    asTheCall("k" + step + "." + prime, row, x.strike(step, prime), x);
                }
            }
        }
    }

    /** The deed on the pad does what the call did, and stops with the error that the call returned. */
    private static void asTheCall(String text, int[] row, int answer, StairKin called) {
        StairKin x = stairs(row);
        Check.same(text, deeds(x, text), answer < 0 ? 0 : 1);
        Check.same(text + ": why(0)", x.why(0), answer < 0 ? answer : NOT_FOUND);
        Check.same(text + ": steps", x.count(0), called.count(0));
        for (int step = 0; step < 3; step++) {
            Check.same(text + ": step " + step, x.step(step, 0), called.step(step, 0));
        }
        for (int what : new int[] {5, 6, 7}) {
            Check.same(text + ": count(" + what + ")", x.count(what), called.count(what));
        }
    }

    private static void carryOutErrors() {
        Sentences.begin("Promise 13", "Returns how many are carried out");
        Check.same("none", deeds(stairs(2, 3), "d0;s0"), 0);
        Check.same("one of one", deeds(stairs(2, 3), "s0"), 1);
        Check.same("one of three", deeds(stairs(2, 3), "s0;k1.5;s0"), 1);
        Check.same("20 of 20", deeds(stairs(2, 3), "s0;".repeat(19) + "s0"), 20);
        Check.same("19 of 20", deeds(stairs(2, 3), "s0;".repeat(19) + "s9"), 19);
        Check.same("18 of 20, on a full pad", deeds(stairs(2, 3), FULL_DEEDS), 18);
        Sentences.begin("Promise 13", "NOT_POSSIBLE if the pad has a fault, read as deeds.");
        refused("carryOut() of the empty pad", NOT_POSSIBLE, () -> new StairKin(), x -> x.carryOut());
        for (String text : new String[] {"", "s", "s0;", "s12", "d0;;d0", "k0", "k0.", "k0.1", "k0.02", "4,6", "s0;d0;x"}) {
            refused("carryOut() of \"" + text + "\"", NOT_POSSIBLE, () -> rich(text), x -> x.carryOut());
        }
        refused("carryOut() of 60 with a fault at the end", NOT_POSSIBLE, () -> full("s0;".repeat(20)), x -> x.carryOut());
    }

    private static StairKin stoppedAt(String text) {
        StairKin x = stairs(4, 6);
        deeds(x, text);
        return x;
    }

    private static void stop(StairKin x, int error, int number, int position) {
        Check.same("why(0)", x.why(0), error);
        Check.same("why(1)", x.why(1), number);
        Check.same("why(2)", x.why(2), position);
    }

    private static void why() {
        Sentences.begin("Promise 14", "the latest call of carryOut() that returned no error stopped");
        StairKin x = stairs(4, 6);
        deeds(x, "s0;k0.5");
        stop(x, NOT_POSSIBLE, 1, 3);
        deeds(x, "s9");
        stop(x, INVALID, 0, 0);
        Check.same("with a fault", deeds(x, "s0;"), NOT_POSSIBLE);
        stop(x, INVALID, 0, 0);
        x.clear();
        Check.same("of the empty pad", x.carryOut(), NOT_POSSIBLE);
        stop(x, INVALID, 0, 0);
        x.share(5);
        x.strike(0, 7);
        stop(x, INVALID, 0, 0);
        x.share(0);
        numbersRead(x, "5");
        x.settle();
        stop(x, INVALID, 0, 0);
        kept("why(0)", () -> rich("s0"), y -> y.why(0));
        kept("why(2)", () -> full(""), y -> y.why(2));
        Sentences.begin("Promise 14", "(This is not a part of what is undone, or restored.)");
        x = stairs(4, 6);
        x.save();
        deeds(x, "s0;k0.5");
        x.undo();
        stop(x, NOT_POSSIBLE, 1, 3);
        x.restore();
        stop(x, NOT_POSSIBLE, 1, 3);
        x.save();
        deeds(x, "s0");
        x.undo();
        stop(x, NOT_FOUND, NOT_FOUND, NOT_FOUND);
        x.restore();
        stop(x, NOT_FOUND, NOT_FOUND, NOT_FOUND);
    }

    private static void whyAnswers() {
        Sentences.begin("Promise 14", "`what`: 0: the error that it returned");
        range("why", 0, 2, () -> stoppedAt("k0.5"), (x, value) -> x.why(value));
        StairKin x = stairs(16, 625, 9973);
        deeds(x, "s2");
        Check.same("no step above", x.why(0), INVALID);
        deeds(x, "k0.4");
        Check.same("no prime", x.why(0), INVALID);
        deeds(x, "k3.2");
        Check.same("no such step", x.why(0), INVALID);
        deeds(x, "d0");
        Check.same("no multiple", x.why(0), NOT_POSSIBLE);
        deeds(x, "k0.3");
        Check.same("does not divide it", x.why(0), NOT_POSSIBLE);
        deeds(x, "s0");
        Check.same("10000", x.why(0), LIMIT);
        Sentences.begin("Promise 14", "1: its number among the deeds, from 0");
        x = stairs(2, 3);
        deeds(x, "d0;s0");
        Check.same("the first one", x.why(1), 0);
        deeds(x, "s0;s0;d1;s0");
        Check.same("the third one", x.why(1), 2);
        deeds(x, "s0;".repeat(19) + "d9");
        Check.same("the twentieth one", x.why(1), 19);
        Sentences.begin("Promise 14", "2: the position of its letter in the pad");
        Check.same("the twentieth one", x.why(2), 57);
        deeds(x, "d5");
        Check.same("the first one", x.why(2), 0);
        x = stairs(9998, 9998);
        deeds(x, "k0.4999;s0;d0;k11.9973;s0");
        Check.same("behind deeds of different lengths", x.why(2), 14);
        Check.same("it is the fourth one", x.why(1), 3);
        Sentences.begin("Promise 14", "Returns the number");
        stop(x, INVALID, 3, 14);
        stop(x, INVALID, 3, 14);
        Sentences.begin("Promise 14", "INVALID_ARGUMENT");
        for (int what : new int[] {-1, 3, LEAST, MOST}) {
            refused("why(" + what + ")", INVALID, () -> rich(), y -> y.why(what));
            refused("why(" + what + ") of none", INVALID, () -> new StairKin(), y -> y.why(what));
        }
        Sentences.begin("Promise 14", "NOT_FOUND if there was no such call");
        stop(new StairKin(), NOT_FOUND, NOT_FOUND, NOT_FOUND);
        x = stairs(4);
        Check.same("with a fault", deeds(x, "s0;"), NOT_POSSIBLE);
        stop(x, NOT_FOUND, NOT_FOUND, NOT_FOUND);
        Sentences.begin("Promise 14", "or all its deeds were carried out");
        x = stairs(4, 6);
        deeds(x, "s0;d9");
        stop(x, INVALID, 1, 3);
        deeds(x, "s0;s0");
        stop(x, NOT_FOUND, NOT_FOUND, NOT_FOUND);
    }
}
