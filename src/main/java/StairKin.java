/** Numbered stairs whose neighbours share or divide: ../shared/DOC.md promises what each call answers. */
public final class StairKin {

    public static final int INVALID_ARGUMENT = -1;
    public static final int NOT_POSSIBLE = -2;
    public static final int LIMIT_REACHED = -3;
    public static final int NOT_FOUND = -4;
    public static final int RULE = 0, STRIDE = 1;

    private static final int MOST_STEPS = 12;
    private static final int MOST_NUMBER = 9999;
    private static final int MOST_CODES = 60;
    private static final int MOST_STATES = 4;
    private static final int MOST_RULE = 2;
    private static final int MOST_STRIDE = 4;

    /** 8192, the 13th power of 2, has the most prime factors of the numbers up to 9999. */
    private static final int MOST_FACTORS = 13;
    /** 30030, the least number with six different prime factors, is above 9999. */
    private static final int MOST_DIFFERENT = 5;
    /** So many primes are below 10000. */
    private static final int MOST_PRIMES = 1229;
    /** No number up to 9999 that is not a prime has its least factor at or above this one. */
    private static final int FACTOR_BOUND = 100;

    /** The place of what is not there; it is never an answer. */
    private static final int NONE = -1;

    private static final int TO_SHARE = 0, TO_DIVIDE = 1, TO_STRIKE = 2;
    private static final int LONGEST = 0, SHORTEST = 1, HEAVIEST = 2;
    private static final int AS_NUMBERS = 0, AS_DEEDS = 1;

    private final Stairs now;
    private final Stairs trial;
    private final Stairs snapshot;
    private boolean saved;
    private final History history;
    private final Pad pad;
    private final Families families;
    private final Climbs ways;
    /** 0 while there is no deed to tell of: an error is never 0. */
    private int stopError;
    private int stopNumber;
    private int stopPosition;

    public StairKin() {
        now = new Stairs();
        trial = new Stairs();
        snapshot = new Stairs();
        history = new History();
        pad = new Pad();
        families = new Families();
        ways = new Climbs();
    }

    // ---- steps

    public int add(int place, int number) {
        history.prepare(now);
        return history.keep(now.putIn(place, number));
    }

    public int take(int step) {
        history.prepare(now);
        return history.keep(now.takeOff(step));
    }

    // ---- deeds

    public int share(int step) {
        history.prepare(now);
        return history.keep(now.shareAt(step));
    }

    public int divide(int step) {
        history.prepare(now);
        return history.keep(now.divideAt(step));
    }

    public int strike(int step, int prime) {
        history.prepare(now);
        return history.keep(now.strikeBy(step, prime));
    }

    public int settle() {
        // A round may stop at the limit half-way, so the rounds are tried on a copy.
        trial.copyFrom(now);
        int rounds = trial.shareInRounds();
        if (rounds < 0) {
            return rounds;
        }
        history.prepare(now);
        now.copyFrom(trial);
        return history.keep(rounds);
    }

    public int set(int what, int value) {
        history.prepare(now);
        return history.keep(now.changeSetting(what, value));
    }

    // ---- texts

    public int append(int code) {
        return pad.putCode(code);
    }

    public int clear() {
        return pad.empty();
    }

    public int fault(int way) {
        if (way != AS_NUMBERS && way != AS_DEEDS) {
            return INVALID_ARGUMENT;
        }
        int place = pad.faultOf(way);
        return place == NONE ? NOT_FOUND : place;
    }

    public int read() {
        if (pad.faultOf(AS_NUMBERS) != NONE) {
            return NOT_POSSIBLE;
        }
        if (pad.parts > MOST_STEPS - now.size) {
            return LIMIT_REACHED;
        }
        history.prepare(now);
        pad.begin();
        for (int part = 0; part < MOST_CODES && pad.nextPart(AS_NUMBERS); part++) {
            now.putIn(now.size, pad.value);
            pad.skip(',');
        }
        pad.empty();
        return history.keep(now.size);
    }

    public int carryOut() {
        if (pad.faultOf(AS_DEEDS) != NONE) {
            return NOT_POSSIBLE;
        }
        history.prepare(now);
        stopError = 0;
        int carried = 0;
        pad.begin();
        for (int part = 0; part < MOST_CODES && stopError == 0 && pad.nextPart(AS_DEEDS); part++) {
            int answer = now.deed(pad.deedKind, pad.deedStep, pad.deedPrime);
            if (answer < 0) {
                stopError = answer;
                stopNumber = part;
                stopPosition = pad.deedPosition;
            } else {
                carried++;
                pad.skip(';');
            }
        }
        pad.empty();
        return history.keep(carried);
    }

    public int why(int what) {
        if (what < 0 || what > 2) {
            return INVALID_ARGUMENT;
        }
        if (stopError == 0) {
            return NOT_FOUND;
        }
        switch (what) {
            case 0:
                return stopError;
            case 1:
                return stopNumber;
            default:
                return stopPosition;
        }
    }

    // ---- looks; nothing is changed

    public int step(int step, int what) {
        if (!now.has(step) || what < 0 || what > 7) {
            return INVALID_ARGUMENT;
        }
        int number = now.numberOf(step);
        switch (what) {
            case 0:
                return number;
            case 1:
                return now.kinOf(step);
            case 2:
                families.find(now);
                return families.lowestOf(step);
            case 3:
                families.find(now);
                return families.sizeOf(families.lowestOf(step));
            case 4:
                return Whole.factors(number);
            case 5:
                return Whole.differentFactors(number);
            case 6:
                return number == 1 ? NOT_FOUND : Whole.greatestPrime(number);
            default:
                return now.leadsFrom(step);
        }
    }

    public int factor(int step, int place) {
        if (!now.has(step) || place < 0) {
            return INVALID_ARGUMENT;
        }
        int prime = Whole.factorAt(now.numberOf(step), place);
        return prime == NONE ? NOT_FOUND : prime;
    }

    public int common(int one, int other, int way) {
        if (!now.has(one) || !now.has(other) || way < 0 || way > 1) {
            return INVALID_ARGUMENT;
        }
        int first = now.numberOf(one);
        int second = now.numberOf(other);
        return way == 0 ? Whole.divisorByRemainders(first, second) : Whole.divisorByFactors(first, second);
    }

    public int whyNot(int from, int to) {
        if (!now.has(from) || !now.has(to)) {
            return INVALID_ARGUMENT;
        }
        return now.obstacle(from, to);
    }

    public int climbs(int from, int to, int way) {
        if (!isSpan(from, to) || way < 0 || way > 1) {
            return INVALID_ARGUMENT;
        }
        return way == 0 ? ways.addUp(now, from, to) : Climbs.goEach(now, from, to, 1);
    }

    public int climb(int from, int to, int kind, int what) {
        if (!isSpan(from, to) || kind < LONGEST || kind > HEAVIEST || what < 0 || what > 2) {
            return INVALID_ARGUMENT;
        }
        ways.seek(now, from, to, kind);
        if (ways.length == 0) {
            return NOT_FOUND;
        }
        switch (what) {
            case 0:
                return ways.length;
            case 1:
                return ways.sumOf(now);
            default:
                return ways.divisorOf(now);
        }
    }

    public int climbAt(int from, int to, int kind, int place) {
        if (!isSpan(from, to) || kind < LONGEST || kind > HEAVIEST || place < 0) {
            return INVALID_ARGUMENT;
        }
        ways.seek(now, from, to, kind);
        return place < ways.length ? Rows.at(ways.path, place) : NOT_FOUND;
    }

    public int crown() {
        int best = NONE;
        int bestKin = NONE;
        for (int step = 0; step < now.size; step++) {
            int kin = now.kinOf(step);
            if (kin > bestKin || kin == bestKin && now.numberOf(step) > now.numberOf(best)) {
                best = step;
                bestKin = kin;
            }
        }
        return best == NONE ? NOT_FOUND : best;
    }

    public int prime(int prime, int what) {
        if (!Whole.isPrime(prime) || what < 0 || what > 4) {
            return INVALID_ARGUMENT;
        }
        switch (what) {
            case 0:
                return now.accounts.chipsOf(prime);
            case 1:
                return now.accounts.cameOf(prime);
            case 2:
                return now.sumOfExponents(prime);
            case 3:
                return now.greatestExponent(prime);
            default:
                return now.multiplesOf(prime);
        }
    }

    public int count(int what) {
        switch (what) {
            case 0:
                return now.size;
            case 1:
                return now.pairs();
            case 2:
                families.find(now);
                return families.many();
            case 3:
                families.find(now);
                return families.greatest();
            case 4:
                return now.isSettled() ? 1 : 0;
            case 5:
                return now.accounts.allChips();
            case 6:
                return now.accounts.kindsOfChips();
            case 7:
                return now.broken;
            case 8:
                return now.differentPrimes();
            case 9:
                return now.ones();
            case 10:
                return now.rule;
            case 11:
                return now.stride;
            case 12:
                return pad.length;
            case 13:
                return history.held;
            default:
                return INVALID_ARGUMENT;
        }
    }

    public double mean() {
        if (now.size == 0) {
            return 0.0;
        }
        int sum = 0;
        for (int step = 0; step < now.size; step++) {
            sum += now.kinOf(step);
        }
        return (double) sum / (double) now.size;
    }

    // ---- what would be; nothing is changed

    public int ifDone(int kind, int step, int what) {
        if (kind < TO_SHARE || kind > TO_STRIKE || !now.has(step) || what < 0 || what > 3) {
            return INVALID_ARGUMENT;
        }
        int number = now.numberOf(step);
        if (kind == TO_STRIKE && number == 1) {
            return NOT_POSSIBLE;
        }
        trial.copyFrom(now);
        int answer = trial.deed(kind, step, Whole.greatestPrime(number));
        if (answer < 0) {
            return answer;
        }
        switch (what) {
            case 0:
                return trial.pairs();
            case 1:
                families.find(trial);
                return families.many();
            case 2:
                ways.seekLongest(trial);
                return ways.mostSteps;
            default:
                return trial.size;
        }
    }

    public int longest(int what) {
        if (what < 0 || what > 2) {
            return INVALID_ARGUMENT;
        }
        if (now.size == 0) {
            return NOT_FOUND;
        }
        ways.seekLongest(now);
        switch (what) {
            case 0:
                return ways.mostSteps;
            case 1:
                return ways.mostFrom;
            default:
                return ways.mostTo;
        }
    }

    public int bestStrike() {
        int best = NOT_FOUND;
        int bestPairs = NONE;
        for (int step = 0; step < now.size; step++) {
            int rest = now.numberOf(step);
            for (int turn = 0; turn < MOST_FACTORS && rest > 1; turn++) {
                int prime = Whole.leastPrime(rest);
                int pairs = pairsIfStruck(step, prime);
                if (pairs > bestPairs) {
                    best = 10000 * step + prime;
                    bestPairs = pairs;
                }
                rest = Whole.withoutPrime(rest, prime);
            }
        }
        return best;
    }

    // ---- history, snapshot

    public int undo() {
        return history.goBack(now) ? history.held : NOT_POSSIBLE;
    }

    public int save() {
        snapshot.copyFrom(now);
        saved = true;
        return now.size;
    }

    public int restore() {
        if (!saved) {
            return NOT_POSSIBLE;
        }
        history.prepare(now);
        now.copyFrom(snapshot);
        return history.keep(now.size);
    }

    private boolean isSpan(int from, int to) {
        return now.has(from) && now.has(to) && from <= to;
    }

    private int pairsIfStruck(int step, int prime) {
        trial.copyFrom(now);
        trial.strikeBy(step, prime);
        return trial.pairs();
    }

    /** Rows of numbers, looked into behind a look at the place: the machine must never throw. */
    private static final class Rows {

        static int at(int[] row, int place) {
            return row != null && place >= 0 && place < row.length ? row[place] : 0;
        }

        static void put(int[] row, int place, int value) {
            if (row != null && place >= 0 && place < row.length) {
                row[place] = value;
            }
        }

        static void copy(int[] from, int[] to, int many) {
            for (int place = 0; place < many; place++) {
                put(to, place, at(from, place));
            }
        }

        static int[] longer(int[] row, int length) {
            int had = row == null ? 0 : row.length;
            int[] copy = new int[length > had ? length : had];
            for (int place = 0; row != null && place < row.length && place < copy.length; place++) {
                copy[place] = row[place];
            }
            return copy;
        }
    }

    /** What is known of the whole numbers from 1 to 9999. */
    private static final class Whole {

        static boolean isNumber(int number) {
            return number >= 1 && number <= MOST_NUMBER;
        }

        static boolean isPrime(int number) {
            return number >= 2 && number <= MOST_NUMBER && leastPrime(number) == number;
        }

        static boolean divides(int divisor, int number) {
            return divisor > 0 && number % divisor == 0;
        }

        static int quotient(int number, int divisor) {
            return divisor > 0 ? number / divisor : number;
        }

        /** Answers 1 for 1, which has no prime factor. */
        static int leastPrime(int number) {
            for (int divisor = 2; divisor < FACTOR_BOUND && divisor * divisor <= number; divisor++) {
                if (divides(divisor, number)) {
                    return divisor;
                }
            }
            return number;
        }

        /** Answers 1 for 1, which has no prime factor. */
        static int greatestPrime(int number) {
            int rest = number;
            int prime = 1;
            for (int turn = 0; turn < MOST_FACTORS && rest > 1; turn++) {
                prime = leastPrime(rest);
                rest = withoutPrime(rest, prime);
            }
            return prime;
        }

        static int exponent(int number, int prime) {
            int rest = number;
            int times = 0;
            for (int turn = 0; turn < MOST_FACTORS && prime > 1 && divides(prime, rest); turn++) {
                rest = quotient(rest, prime);
                times++;
            }
            return times;
        }

        static int withoutPrime(int number, int prime) {
            int rest = number;
            for (int turn = exponent(number, prime); turn > 0; turn--) {
                rest = quotient(rest, prime);
            }
            return rest;
        }

        static int factors(int number) {
            int rest = number;
            int many = 0;
            for (int turn = 0; turn < MOST_FACTORS && rest > 1; turn++) {
                rest = quotient(rest, leastPrime(rest));
                many++;
            }
            return many;
        }

        static int differentFactors(int number) {
            int rest = number;
            int many = 0;
            for (int turn = 0; turn < MOST_FACTORS && rest > 1; turn++) {
                rest = withoutPrime(rest, leastPrime(rest));
                many++;
            }
            return many;
        }

        static int factorAt(int number, int place) {
            int rest = number;
            for (int turn = 0; turn < MOST_FACTORS && rest > 1; turn++) {
                int prime = leastPrime(rest);
                if (turn == place) {
                    return prime;
                }
                rest = quotient(rest, prime);
            }
            return NONE;
        }

        static int divisorByRemainders(int one, int other) {
            int divisor = one;
            int rest = other;
            // Numbers up to 9999 need some twenty remainders.
            for (int turn = 0; turn < 64 && rest != 0; turn++) {
                int next = divisor % rest;
                divisor = rest;
                rest = next;
            }
            return divisor;
        }

        static int divisorByFactors(int one, int other) {
            int rest = one;
            int otherRest = other;
            int divisor = 1;
            for (int turn = 0; turn < MOST_FACTORS && rest > 1; turn++) {
                int prime = leastPrime(rest);
                rest = quotient(rest, prime);
                if (divides(prime, otherRest)) {
                    otherRest = quotient(otherRest, prime);
                    divisor *= prime;
                }
            }
            return divisor;
        }

        static int multiple(int one, int other) {
            return quotient(one, divisorByRemainders(one, other)) * other;
        }
    }

    /** Chips, and how often each prime came; a row has a place only for the primes that were met. */
    private static final class Accounts {
        private int[] primes;
        private int[] chips;
        private int[] came;
        private int kinds;

        Accounts() {
            // Few runs meet more primes; the rows grow if one does.
            primes = new int[16];
            chips = new int[16];
            came = new int[16];
        }

        void copyFrom(Accounts other) {
            makeRoom(other.kinds);
            kinds = other.kinds;
            Rows.copy(other.primes, primes, kinds);
            Rows.copy(other.chips, chips, kinds);
            Rows.copy(other.came, came, kinds);
        }

        /** Books each prime factor of the number as often as its exponent tells. */
        void book(int number, int moreChips, int moreCame) {
            makeRoom(kinds + MOST_DIFFERENT);
            int rest = number;
            for (int turn = 0; turn < MOST_FACTORS && rest > 1; turn++) {
                int prime = Whole.leastPrime(rest);
                int place = placeOf(prime);
                if (place == NONE) {
                    place = openPlace(prime);
                }
                Rows.put(chips, place, Rows.at(chips, place) + moreChips);
                Rows.put(came, place, Rows.at(came, place) + moreCame);
                rest = Whole.quotient(rest, prime);
            }
        }

        int chipsOf(int prime) {
            return Rows.at(chips, placeOf(prime));
        }

        int cameOf(int prime) {
            return Rows.at(came, placeOf(prime));
        }

        int allChips() {
            int sum = 0;
            for (int place = 0; place < kinds; place++) {
                sum += Rows.at(chips, place);
            }
            return sum;
        }

        int kindsOfChips() {
            int many = 0;
            for (int place = 0; place < kinds; place++) {
                if (Rows.at(chips, place) > 0) {
                    many++;
                }
            }
            return many;
        }

        private int placeOf(int prime) {
            for (int place = 0; place < kinds; place++) {
                if (Rows.at(primes, place) == prime) {
                    return place;
                }
            }
            return NONE;
        }

        private int openPlace(int prime) {
            int place = kinds;
            // The rows may still bear what a state before left here.
            Rows.put(primes, place, prime);
            Rows.put(chips, place, 0);
            Rows.put(came, place, 0);
            kinds++;
            return place;
        }

        private void makeRoom(int places) {
            if (places <= primes.length || primes.length >= MOST_PRIMES) {
                return;
            }
            int length = Math.min(MOST_PRIMES, Math.max(places, 2 * primes.length));
            primes = Rows.longer(primes, length);
            chips = Rows.longer(chips, length);
            came = Rows.longer(came, length);
        }
    }

    /** All that undo() and restore() bring back: steps, settings, accounts. */
    private static final class Stairs {
        private final int[] numbers;
        private final Accounts accounts;
        private int size;
        private int rule;
        private int stride;
        private int broken;

        Stairs() {
            numbers = new int[MOST_STEPS];
            accounts = new Accounts();
            stride = 2;
        }

        void copyFrom(Stairs other) {
            size = other.size;
            rule = other.rule;
            stride = other.stride;
            broken = other.broken;
            Rows.copy(other.numbers, numbers, size);
            accounts.copyFrom(other.accounts);
        }

        boolean has(int step) {
            return step >= 0 && step < size;
        }

        /** Answers 1 where there is no step, so that nothing is divided by 0. */
        int numberOf(int step) {
            return step >= 0 && step < size && step < numbers.length ? numbers[step] : 1;
        }

        int putIn(int place, int number) {
            if (place < 0 || place > size || !Whole.isNumber(number)) {
                return INVALID_ARGUMENT;
            }
            if (size >= MOST_STEPS) {
                return LIMIT_REACHED;
            }
            for (int step = size; step > place; step--) {
                Rows.put(numbers, step, Rows.at(numbers, step - 1));
            }
            Rows.put(numbers, place, number);
            size++;
            accounts.book(number, 0, 1);
            return size;
        }

        int takeOff(int step) {
            if (!has(step)) {
                return INVALID_ARGUMENT;
            }
            int number = numberOf(step);
            accounts.book(number, 0, -1);
            closeUp(step);
            return number;
        }

        int deed(int kind, int step, int prime) {
            switch (kind) {
                case TO_SHARE:
                    return shareAt(step);
                case TO_DIVIDE:
                    return divideAt(step);
                case TO_STRIKE:
                    return strikeBy(step, prime);
                default:
                    return INVALID_ARGUMENT;
            }
        }

        int shareAt(int step) {
            if (!has(step) || !has(step + 1)) {
                return INVALID_ARGUMENT;
            }
            int low = numberOf(step);
            int high = numberOf(step + 1);
            int multiple = Whole.multiple(low, high);
            if (multiple > MOST_NUMBER) {
                return LIMIT_REACHED;
            }
            int divisor = Whole.divisorByRemainders(low, high);
            Rows.put(numbers, step, divisor);
            Rows.put(numbers, step + 1, multiple);
            return divisor;
        }

        int divideAt(int step) {
            if (!has(step) || !has(step + 1)) {
                return INVALID_ARGUMENT;
            }
            int divisor = numberOf(step);
            if (!Whole.divides(divisor, numberOf(step + 1))) {
                return NOT_POSSIBLE;
            }
            return split(step + 1, divisor);
        }

        int strikeBy(int step, int prime) {
            if (!has(step) || !Whole.isPrime(prime)) {
                return INVALID_ARGUMENT;
            }
            if (!Whole.divides(prime, numberOf(step))) {
                return NOT_POSSIBLE;
            }
            return split(step, prime);
        }

        int shareInRounds() {
            // Each round brings one more step to its end, so that fewer rounds than steps do.
            for (int rounds = 0; rounds <= MOST_STEPS; rounds++) {
                if (isSettled()) {
                    return rounds;
                }
                for (int step = 0; step < size - 1; step++) {
                    if (shareAt(step) < 0) {
                        return LIMIT_REACHED;
                    }
                }
            }
            return LIMIT_REACHED;
        }

        boolean isSettled() {
            for (int step = 0; step < size - 1; step++) {
                if (!Whole.divides(numberOf(step), numberOf(step + 1))) {
                    return false;
                }
            }
            return true;
        }

        int changeSetting(int what, int value) {
            if (what == RULE && value >= 0 && value <= MOST_RULE) {
                int before = rule;
                rule = value;
                return before;
            }
            if (what == STRIDE && value >= 1 && value <= MOST_STRIDE) {
                int before = stride;
                stride = value;
                return before;
            }
            return INVALID_ARGUMENT;
        }

        boolean isKin(int one, int other) {
            if (one == other) {
                return false;
            }
            int low = numberOf(one < other ? one : other);
            int high = numberOf(one < other ? other : one);
            switch (rule) {
                case 0:
                    return Whole.divisorByRemainders(low, high) > 1;
                case 1:
                    return Whole.divides(low, high) || Whole.divides(high, low);
                default:
                    return Whole.divides(low, high);
            }
        }

        int kinOf(int step) {
            int many = 0;
            for (int other = 0; other < size; other++) {
                if (isKin(step, other)) {
                    many++;
                }
            }
            return many;
        }

        int pairs() {
            int many = 0;
            for (int high = 1; high < size; high++) {
                for (int low = 0; low < high; low++) {
                    if (isKin(low, high)) {
                        many++;
                    }
                }
            }
            return many;
        }

        /** Answers as whyNot() does: 0 if there is none. */
        int obstacle(int from, int to) {
            if (to <= from) {
                return 1;
            }
            if (to - from > stride) {
                return 2;
            }
            return isKin(from, to) ? 0 : 3;
        }

        boolean leads(int from, int to) {
            return obstacle(from, to) == 0;
        }

        int leadsFrom(int step) {
            int many = 0;
            for (int other = step + 1; other < size; other++) {
                if (leads(step, other)) {
                    many++;
                }
            }
            return many;
        }

        int sumOfExponents(int prime) {
            int sum = 0;
            for (int step = 0; step < size; step++) {
                sum += Whole.exponent(numberOf(step), prime);
            }
            return sum;
        }

        int greatestExponent(int prime) {
            int greatest = 0;
            for (int step = 0; step < size; step++) {
                greatest = Math.max(greatest, Whole.exponent(numberOf(step), prime));
            }
            return greatest;
        }

        int multiplesOf(int prime) {
            int many = 0;
            for (int step = 0; step < size; step++) {
                if (Whole.divides(prime, numberOf(step))) {
                    many++;
                }
            }
            return many;
        }

        int ones() {
            int many = 0;
            for (int step = 0; step < size; step++) {
                if (numberOf(step) == 1) {
                    many++;
                }
            }
            return many;
        }

        int differentPrimes() {
            int many = 0;
            for (int step = 0; step < size; step++) {
                int rest = numberOf(step);
                for (int turn = 0; turn < MOST_FACTORS && rest > 1; turn++) {
                    int prime = Whole.leastPrime(rest);
                    if (!dividesBelow(step, prime)) {
                        many++;
                    }
                    rest = Whole.withoutPrime(rest, prime);
                }
            }
            return many;
        }

        private boolean dividesBelow(int step, int prime) {
            for (int lower = 0; lower < step; lower++) {
                if (Whole.divides(prime, numberOf(lower))) {
                    return true;
                }
            }
            return false;
        }

        /** Divides a step by a divisor of its number, whose primes become chips, and breaks it at 1. */
        private int split(int step, int divisor) {
            int quotient = Whole.quotient(numberOf(step), divisor);
            accounts.book(divisor, 1, 0);
            if (quotient == 1) {
                closeUp(step);
                broken++;
            } else {
                Rows.put(numbers, step, quotient);
            }
            return quotient;
        }

        private void closeUp(int step) {
            for (int higher = step + 1; higher < size; higher++) {
                Rows.put(numbers, higher - 1, Rows.at(numbers, higher));
            }
            size--;
        }
    }

    /** Which steps are joined by kin: each family is named by its lowest step. */
    private static final class Families {
        private final int[] lowest;
        private int size;

        Families() {
            lowest = new int[MOST_STEPS];
        }

        void find(Stairs stairs) {
            size = stairs.size;
            for (int step = 0; step < size; step++) {
                Rows.put(lowest, step, step);
            }
            for (int high = 1; high < size; high++) {
                for (int low = 0; low < high; low++) {
                    if (stairs.isKin(low, high)) {
                        join(lowestOf(low), lowestOf(high));
                    }
                }
            }
        }

        int lowestOf(int step) {
            return Rows.at(lowest, step);
        }

        int sizeOf(int family) {
            int many = 0;
            for (int step = 0; step < size; step++) {
                if (lowestOf(step) == family) {
                    many++;
                }
            }
            return many;
        }

        int many() {
            int many = 0;
            for (int step = 0; step < size; step++) {
                if (lowestOf(step) == step) {
                    many++;
                }
            }
            return many;
        }

        int greatest() {
            int greatest = 0;
            for (int step = 0; step < size; step++) {
                greatest = Math.max(greatest, sizeOf(step));
            }
            return greatest;
        }

        private void join(int one, int other) {
            int least = Math.min(one, other);
            for (int step = 0; step < size; step++) {
                if (lowestOf(step) == one || lowestOf(step) == other) {
                    Rows.put(lowest, step, least);
                }
            }
        }
    }

    /** Rows of steps that go up over kin. */
    private static final class Climbs {
        private final int[] path;
        private int length;
        private int mostSteps;
        private int mostFrom;
        private int mostTo;
        private final int[] worth;
        private final int[] next;
        private final int[] end;

        Climbs() {
            path = new int[MOST_STEPS];
            worth = new int[MOST_STEPS];
            next = new int[MOST_STEPS];
            end = new int[MOST_STEPS];
        }

        int addUp(Stairs stairs, int from, int to) {
            Rows.put(worth, from, 1);
            for (int step = from + 1; step <= to; step++) {
                int sum = 0;
                for (int lower = from; lower < step; lower++) {
                    if (stairs.leads(lower, step)) {
                        sum += Rows.at(worth, lower);
                    }
                }
                Rows.put(worth, step, sum);
            }
            return Rows.at(worth, to);
        }

        private static int goEach(Stairs stairs, int step, int to, int depth) {
            if (step == to) {
                return 1;
            }
            int many = 0;
            // A climb has no more steps than the stairs, so that the guard cuts nothing off.
            for (int higher = step + 1; higher <= to && depth < MOST_STEPS; higher++) {
                if (stairs.leads(step, higher)) {
                    many += goEach(stairs, higher, to, depth + 1);
                }
            }
            return many;
        }

        /** Finds the climb of a kind, with the lowest steps of several; its length is 0 if there is none. */
        void seek(Stairs stairs, int from, int to, int kind) {
            // From the top down, as the best climb of a step goes on with the best one of a higher step.
            for (int step = to; step >= from; step--) {
                int on = step == to ? step : bestNext(stairs, step, to);
                int more = step == to || on == NONE ? 0 : Rows.at(worth, on);
                Rows.put(next, step, on);
                Rows.put(worth, step, ownWorth(stairs.numberOf(step), kind) + more);
            }
            length = 0;
            int step = Rows.at(next, from) == NONE ? NONE : from;
            for (int turn = 0; turn < MOST_STEPS && step != NONE; turn++) {
                Rows.put(path, length, step);
                length++;
                step = step == to ? NONE : Rows.at(next, step);
            }
        }

        int sumOf(Stairs stairs) {
            int sum = 0;
            for (int place = 0; place < length; place++) {
                sum += stairs.numberOf(Rows.at(path, place));
            }
            return sum;
        }

        int divisorOf(Stairs stairs) {
            int divisor = 0;
            for (int place = 0; place < length; place++) {
                divisor = Whole.divisorByRemainders(divisor, stairs.numberOf(Rows.at(path, place)));
            }
            return divisor;
        }

        /** Finds the longest climb of all, the lowest step that has one, and the lowest one that it goes to. */
        void seekLongest(Stairs stairs) {
            mostSteps = 0;
            for (int step = stairs.size - 1; step >= 0; step--) {
                seekLongestFrom(stairs, step);
                if (Rows.at(worth, step) >= mostSteps) {
                    mostSteps = Rows.at(worth, step);
                    mostFrom = step;
                    mostTo = Rows.at(end, step);
                }
            }
        }

        private void seekLongestFrom(Stairs stairs, int step) {
            int steps = 1;
            int last = step;
            for (int higher = step + 1; higher < stairs.size; higher++) {
                if (stairs.leads(step, higher)) {
                    int more = Rows.at(worth, higher) + 1;
                    int lastThen = Rows.at(end, higher);
                    if (more > steps || more == steps && lastThen < last) {
                        steps = more;
                        last = lastThen;
                    }
                }
            }
            Rows.put(worth, step, steps);
            Rows.put(end, step, last);
        }

        private int bestNext(Stairs stairs, int step, int to) {
            int best = NONE;
            for (int higher = step + 1; higher <= to; higher++) {
                if (Rows.at(next, higher) != NONE && stairs.leads(step, higher)
                        && (best == NONE || Rows.at(worth, higher) > Rows.at(worth, best))) {
                    best = higher;
                }
            }
            return best;
        }

        /** The worths of the steps are so that the climb sought is the one with the greatest sum. */
        private static int ownWorth(int number, int kind) {
            switch (kind) {
                case LONGEST:
                    return 1;
                case SHORTEST:
                    return -1;
                default:
                    return number;
            }
        }
    }

    /** The characters, and a place in them from which they are read. */
    private static final class Pad {
        private final int[] codes;
        private int length;
        private int place;
        private int parts;
        private int value;
        private int deedKind;
        private int deedStep;
        private int deedPrime;
        private int deedPosition;

        Pad() {
            codes = new int[MOST_CODES];
        }

        int putCode(int code) {
            if (code < 33 || code > 126) {
                return INVALID_ARGUMENT;
            }
            if (length >= MOST_CODES) {
                return LIMIT_REACHED;
            }
            Rows.put(codes, length, code);
            length++;
            return length;
        }

        int empty() {
            int before = length;
            length = 0;
            return before;
        }

        void begin() {
            place = 0;
        }

        /** Reading stops at the place of the fault, whether a character there is wrong or missing. */
        int faultOf(int way) {
            begin();
            for (int part = 1; part <= MOST_CODES; part++) {
                parts = part;
                if (!nextPart(way)) {
                    return place;
                }
                if (place >= length) {
                    return NONE;
                }
                if (!skip(way == AS_NUMBERS ? ',' : ';')) {
                    return place;
                }
            }
            return place;
        }

        boolean nextPart(int way) {
            return way == AS_NUMBERS ? nextNumber(1, MOST_NUMBER) : nextDeed();
        }

        boolean skip(int code) {
            if (code() != code) {
                return false;
            }
            place++;
            return true;
        }

        /** Answers 0, which no character has, behind the last one. */
        private int code() {
            return place >= 0 && place < length && place < codes.length ? codes[place] : 0;
        }

        private boolean nextDeed() {
            deedPosition = place;
            deedPrime = 0;
            deedKind = kindOf(code());
            if (deedKind == NONE) {
                return false;
            }
            place++;
            if (!nextNumber(0, MOST_STEPS - 1)) {
                return false;
            }
            deedStep = value;
            if (deedKind != TO_STRIKE) {
                return true;
            }
            if (!skip('.') || !nextNumber(2, MOST_NUMBER)) {
                return false;
            }
            deedPrime = value;
            return true;
        }

        private static int kindOf(int code) {
            switch (code) {
                case 's':
                    return TO_SHARE;
                case 'd':
                    return TO_DIVIDE;
                case 'k':
                    return TO_STRIKE;
                default:
                    return NONE;
            }
        }

        /** Reads on as long as the digits begin a number that is not above the greatest one. */
        private boolean nextNumber(int least, int greatest) {
            value = 0;
            int digits = 0;
            for (int turn = place; turn < length && continues(digits, least, greatest); turn++) {
                value = 10 * value + code() - '0';
                digits++;
                place++;
            }
            return digits > 0 && value >= least;
        }

        private boolean continues(int digits, int least, int greatest) {
            int digit = code() - '0';
            if (digit < 0 || digit > 9) {
                return false;
            }
            if (digits == 0) {
                return digit > 0 || least == 0;
            }
            return value > 0 && 10 * value + digit <= greatest;
        }
    }

    /** The states before the latest changes, in a ring that has one place more, for the state at hand. */
    private static final class History {
        private final Stairs[] states;
        private int first;
        private int held;

        History() {
            states = new Stairs[MOST_STATES + 1];
            for (int place = 0; place < states.length; place++) {
                states[place] = new Stairs();
            }
        }

        /** Writes the state down ahead of a call of which it is not known yet if it returns an error. */
        void prepare(Stairs now) {
            Stairs spare = stateAt(held);
            if (spare != null) {
                spare.copyFrom(now);
            }
        }

        /** Keeps the state that was written down, if the answer is no error; passes the answer on. */
        int keep(int answer) {
            if (answer >= 0) {
                held++;
                if (held > MOST_STATES) {
                    held = MOST_STATES;
                    first = (first + 1) % (MOST_STATES + 1);
                }
            }
            return answer;
        }

        boolean goBack(Stairs now) {
            Stairs latest = held > 0 ? stateAt(held - 1) : null;
            if (latest == null) {
                return false;
            }
            held--;
            now.copyFrom(latest);
            return true;
        }

        private Stairs stateAt(int place) {
            int index = (first + place) % (MOST_STATES + 1);
            return index >= 0 && index < states.length ? states[index] : null;
        }
    }
}
