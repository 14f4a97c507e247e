import java.util.ArrayList;
import java.util.Comparator;
import java.util.List;
import java.util.Map;
import java.util.TreeMap;
import java.util.TreeSet;
import java.util.regex.Pattern;

/** The document told once more, by lists, maps and plain search: what StairKin answers has to be the same. */
public final class Model {
    private static final int INVALID = -1;
    private static final int NOT_POSSIBLE = -2;
    private static final int LIMIT = -3;
    private static final int NOT_FOUND = -4;
    private static final String NUMBER = "[1-9][0-9]{0,3}";
    private static final String PLACE = "(1[01]|[0-9])";
    private static final String DEED = "([sd]" + PLACE + "|k" + PLACE + "\\.([2-9]|[1-9][0-9]{1,3}))";
    private static final Pattern[] WHOLE = {
        Pattern.compile(NUMBER + "(," + NUMBER + ")*"), Pattern.compile(DEED + "(;" + DEED + ")*")
    };
    /** What makes a pad whole that begins well: one of these does, if any text does. */
    private static final String[][] ENDS = {{"", "1"}, {"", "0", "0.2", ".2", "2", "s0"}};

    /** What undo() and restore() bring back. */
    private static final class State {
        private final List<Integer> numbers = new ArrayList<>();
        private final Map<Integer, Integer> chips = new TreeMap<>();
        private final Map<Integer, Integer> came = new TreeMap<>();
        private final int[] settings = {0, 2};
        private int broken;

        State copy() {
            State copy = new State();
            copy.numbers.addAll(numbers);
            copy.chips.putAll(chips);
            copy.came.putAll(came);
            copy.settings[0] = settings[0];
            copy.settings[1] = settings[1];
            copy.broken = broken;
            return copy;
        }

        boolean has(int step) {
            return step >= 0 && step < numbers.size();
        }

        int number(int step) {
            return numbers.get(step);
        }

        boolean kin(int one, int other) {
            int low = number(Math.min(one, other));
            int high = number(Math.max(one, other));
            if (settings[0] == 0) {
                return divisor(low, high) > 1;
            }
            return high % low == 0 || settings[0] == 1 && low % high == 0;
        }

        int kinOf(int step) {
            int many = 0;
            for (int other = 0; other < numbers.size(); other++) {
                many += other != step && kin(step, other) ? 1 : 0;
            }
            return many;
        }

        int pairs() {
            int sum = 0;
            for (int step = 0; step < numbers.size(); step++) {
                sum += kinOf(step);
            }
            return sum / 2;
        }

        TreeSet<Integer> family(int step) {
            TreeSet<Integer> family = new TreeSet<>(List.of(step));
            for (int before = 0; before != family.size();) {
                before = family.size();
                for (int one : new ArrayList<>(family)) {
                    for (int other = 0; other < numbers.size(); other++) {
                        if (other != one && kin(one, other)) {
                            family.add(other);
                        }
                    }
                }
            }
            return family;
        }

        int families() {
            TreeSet<Integer> lowest = new TreeSet<>();
            for (int step = 0; step < numbers.size(); step++) {
                lowest.add(family(step).first());
            }
            return lowest.size();
        }

        boolean settled() {
            for (int step = 1; step < numbers.size(); step++) {
                if (number(step) % number(step - 1) != 0) {
                    return false;
                }
            }
            return true;
        }

        int obstacle(int from, int to) {
            return to <= from ? 1 : to > from + settings[1] ? 2 : kin(from, to) ? 0 : 3;
        }

        List<List<Integer>> climbs(int from, int to) {
            List<List<Integer>> found = new ArrayList<>();
            go(new ArrayList<>(List.of(from)), to, found);
            return found;
        }

        private void go(List<Integer> begun, int to, List<List<Integer>> found) {
            int last = begun.get(begun.size() - 1);
            if (last == to) {
                found.add(new ArrayList<>(begun));
                return;
            }
            for (int next = last + 1; next <= to; next++) {
                if (obstacle(last, next) == 0) {
                    begun.add(next);
                    go(begun, to, found);
                    begun.remove(begun.size() - 1);
                }
            }
        }

        int sum(List<Integer> climb) {
            int sum = 0;
            for (int step : climb) {
                sum += number(step);
            }
            return sum;
        }

        /** Steps, first and last step of the longest climb, the lowest ones of several. */
        int[] longest() {
            int[] best = {0, 0, 0};
            for (int from = 0; from < numbers.size(); from++) {
                for (int to = from; to < numbers.size(); to++) {
                    for (List<Integer> climb : climbs(from, to)) {
                        best = climb.size() > best[0] ? new int[] {climb.size(), from, to} : best;
                    }
                }
            }
            return best;
        }

        void put(int place, int number) {
            numbers.add(place, number);
            book(came, number, 1);
        }

        int deed(int kind, int step, int prime) {
            if (!has(step) || kind == 2 && !isPrime(prime) || kind != 2 && !has(step + 1)) {
                return INVALID;
            }
            if (kind == 2) {
                return split(step, prime);
            }
            if (kind == 1) {
                return split(step + 1, number(step));
            }
            int divisor = divisor(number(step), number(step + 1));
            long multiple = (long) number(step) * number(step + 1) / divisor;
            if (multiple > 9999) {
                return LIMIT;
            }
            numbers.set(step, divisor);
            numbers.set(step + 1, (int) multiple);
            return divisor;
        }

        private int split(int step, int divisor) {
            if (number(step) % divisor != 0) {
                return NOT_POSSIBLE;
            }
            book(chips, divisor, 1);
            int quotient = number(step) / divisor;
            numbers.set(step, quotient);
            if (quotient == 1) {
                numbers.remove(step);
                broken++;
            }
            return quotient;
        }

        int settle() {
            int rounds = 0;
            for (; !settled(); rounds++) {
                for (int step = 0; step + 1 < numbers.size(); step++) {
                    if (deed(0, step, 0) == LIMIT) {
                        return LIMIT;
                    }
                }
            }
            return rounds;
        }
    }

    private State now = new State();
    private State snapshot;
    private final List<State> history = new ArrayList<>();
    private String pad = "";
    private int[] stop;

    private static int divisor(int one, int other) {
        int divisor = Math.min(one, other);
        while (one % divisor != 0 || other % divisor != 0) {
            divisor--;
        }
        return divisor;
    }

    private static boolean isPrime(int number) {
        return number >= 2 && number <= 9999 && factors(number).size() == 1;
    }

    private static List<Integer> factors(int number) {
        List<Integer> factors = new ArrayList<>();
        for (int factor = 2; number > 1; factor++) {
            for (; number % factor == 0; number /= factor) {
                factors.add(factor);
            }
        }
        return factors;
    }

    private static void book(Map<Integer, Integer> account, int number, int more) {
        for (int prime : factors(number)) {
            account.merge(prime, more, Integer::sum);
        }
    }

    int size() {
        return now.numbers.size();
    }

    private int change(State then, int answer) {
        if (answer >= 0) {
            history.add(now);
            now = then;
            if (history.size() > 4) {
                history.remove(0);
            }
        }
        return answer;
    }

    public int add(int place, int number) {
        if (place < 0 || place > now.numbers.size() || number < 1 || number > 9999) {
            return INVALID;
        }
        if (now.numbers.size() == 12) {
            return LIMIT;
        }
        State then = now.copy();
        then.put(place, number);
        return change(then, then.numbers.size());
    }

    public int take(int step) {
        if (!now.has(step)) {
            return INVALID;
        }
        State then = now.copy();
        int number = then.numbers.remove(step);
        book(then.came, number, -1);
        return change(then, number);
    }

    private int deedNow(int kind, int step, int prime) {
        State then = now.copy();
        return change(then, then.deed(kind, step, prime));
    }

    public int share(int step) {
        return deedNow(0, step, 0);
    }

    public int divide(int step) {
        return deedNow(1, step, 0);
    }

    public int strike(int step, int prime) {
        return deedNow(2, step, prime);
    }

    public int settle() {
        State then = now.copy();
        return change(then, then.settle());
    }

    public int set(int what, int value) {
        if (what == 0 && value >= 0 && value <= 2 || what == 1 && value >= 1 && value <= 4) {
            State then = now.copy();
            then.settings[what] = value;
            return change(then, now.settings[what]);
        }
        return INVALID;
    }

    public int append(int code) {
        if (code < 33 || code > 126) {
            return INVALID;
        }
        if (pad.length() == 60) {
            return LIMIT;
        }
        pad = pad + (char) code;
        return pad.length();
    }

    public int clear() {
        int length = pad.length();
        pad = "";
        return length;
    }

    private static boolean begins(String text, int way) {
        for (String end : ENDS[way]) {
            if (WHOLE[way].matcher(text + end).matches()) {
                return true;
            }
        }
        return false;
    }

    public int fault(int way) {
        if (way != 0 && way != 1) {
            return INVALID;
        }
        for (int place = 0; place < pad.length(); place++) {
            if (!begins(pad.substring(0, place + 1), way)) {
                return place;
            }
        }
        return WHOLE[way].matcher(pad).matches() ? NOT_FOUND : pad.length();
    }

    public int read() {
        if (fault(0) != NOT_FOUND) {
            return NOT_POSSIBLE;
        }
        String[] parts = pad.split(",");
        if (now.numbers.size() + parts.length > 12) {
            return LIMIT;
        }
        State then = now.copy();
        for (String part : parts) {
            then.put(then.numbers.size(), Integer.parseInt(part));
        }
        pad = "";
        return change(then, then.numbers.size());
    }

    public int carryOut() {
        if (fault(1) != NOT_FOUND) {
            return NOT_POSSIBLE;
        }
        State then = now.copy();
        stop = null;
        int carried = 0;
        int position = 0;
        for (String part : pad.split(";")) {
            String[] numbers = part.substring(1).split("\\.");
            int prime = numbers.length > 1 ? Integer.parseInt(numbers[1]) : 0;
            int answer = then.deed("sdk".indexOf(part.charAt(0)), Integer.parseInt(numbers[0]), prime);
            if (answer < 0) {
                stop = new int[] {answer, carried, position};
                break;
            }
            carried++;
            position += part.length() + 1;
        }
        pad = "";
        return change(then, carried);
    }

    public int why(int what) {
        return what < 0 || what > 2 ? INVALID : stop == null ? NOT_FOUND : stop[what];
    }

    public int step(int step, int what) {
        if (!now.has(step) || what < 0 || what > 7) {
            return INVALID;
        }
        List<Integer> factors = factors(now.number(step));
        int on = 0;
        for (int other = 0; other < now.numbers.size(); other++) {
            on += now.obstacle(step, other) == 0 ? 1 : 0;
        }
        int greatest = factors.isEmpty() ? NOT_FOUND : factors.get(factors.size() - 1);
        return new int[] {
            now.number(step), now.kinOf(step), now.family(step).first(), now.family(step).size(), factors.size(),
            new TreeSet<>(factors).size(), greatest, on
        }[what];
    }

    public int factor(int step, int place) {
        if (!now.has(step) || place < 0) {
            return INVALID;
        }
        List<Integer> factors = factors(now.number(step));
        return place < factors.size() ? factors.get(place) : NOT_FOUND;
    }

    public int common(int one, int other, int way) {
        if (!now.has(one) || !now.has(other) || way != 0 && way != 1) {
            return INVALID;
        }
        return divisor(now.number(one), now.number(other));
    }

    public int whyNot(int from, int to) {
        return now.has(from) && now.has(to) ? now.obstacle(from, to) : INVALID;
    }

    public int climbs(int from, int to, int way) {
        if (!now.has(from) || !now.has(to) || from > to || way != 0 && way != 1) {
            return INVALID;
        }
        return now.climbs(from, to).size();
    }

    private List<Integer> best(int from, int to, int kind) {
        List<Integer> best = null;
        Comparator<List<Integer>> order = Comparator.comparingInt(
                climb -> kind == 0 ? climb.size() : kind == 1 ? -climb.size() : now.sum(climb));
        // They are found in the order of their steps, so that the first one of several is due.
        for (List<Integer> climb : now.climbs(from, to)) {
            best = best == null || order.compare(climb, best) > 0 ? climb : best;
        }
        return best;
    }

    public int climb(int from, int to, int kind, int what) {
        if (!now.has(from) || !now.has(to) || from > to || kind < 0 || kind > 2 || what < 0 || what > 2) {
            return INVALID;
        }
        List<Integer> climb = best(from, to, kind);
        if (climb == null) {
            return NOT_FOUND;
        }
        int divisor = now.number(from);
        for (int step : climb) {
            divisor = divisor(divisor, now.number(step));
        }
        return what == 0 ? climb.size() : what == 1 ? now.sum(climb) : divisor;
    }

    public int climbAt(int from, int to, int kind, int place) {
        if (!now.has(from) || !now.has(to) || from > to || kind < 0 || kind > 2 || place < 0) {
            return INVALID;
        }
        List<Integer> climb = best(from, to, kind);
        return climb == null || place >= climb.size() ? NOT_FOUND : climb.get(place);
    }

    public int crown() {
        int crown = NOT_FOUND;
        long best = -1;
        for (int step = 0; step < now.numbers.size(); step++) {
            long rank = now.kinOf(step) * 1000000L + now.number(step) * 100L - step;
            crown = rank > best ? step : crown;
            best = Math.max(best, rank);
        }
        return crown;
    }

    public int prime(int prime, int what) {
        if (!isPrime(prime) || what < 0 || what > 4) {
            return INVALID;
        }
        int sum = 0;
        int greatest = 0;
        int many = 0;
        for (int number : now.numbers) {
            int exponent = 0;
            for (int factor : factors(number)) {
                exponent += factor == prime ? 1 : 0;
            }
            sum += exponent;
            greatest = Math.max(greatest, exponent);
            many += exponent > 0 ? 1 : 0;
        }
        int chips = now.chips.getOrDefault(prime, 0);
        return new int[] {chips, now.came.getOrDefault(prime, 0), sum, greatest, many}[what];
    }

    public int count(int what) {
        if (what < 0 || what > 13) {
            return INVALID;
        }
        int greatest = 0;
        int ones = 0;
        TreeSet<Integer> primes = new TreeSet<>();
        for (int step = 0; step < now.numbers.size(); step++) {
            greatest = Math.max(greatest, now.family(step).size());
            ones += now.number(step) == 1 ? 1 : 0;
            primes.addAll(factors(now.number(step)));
        }
        int chips = 0;
        for (int many : now.chips.values()) {
            chips += many;
        }
        return new int[] {
            now.numbers.size(), now.pairs(), now.families(), greatest, now.settled() ? 1 : 0, chips, now.chips.size(),
            now.broken, primes.size(), ones, now.settings[0], now.settings[1], pad.length(), history.size()
        }[what];
    }

    public double mean() {
        return now.numbers.isEmpty() ? 0.0 : (double) (2 * now.pairs()) / now.numbers.size();
    }

    public int ifDone(int kind, int step, int what) {
        if (kind < 0 || kind > 2 || what < 0 || what > 3 || !now.has(step)) {
            return INVALID;
        }
        List<Integer> factors = factors(now.number(step));
        if (kind == 2 && factors.isEmpty()) {
            return NOT_POSSIBLE;
        }
        State then = now.copy();
        int answer = then.deed(kind, step, kind == 2 ? factors.get(factors.size() - 1) : 0);
        return answer < 0 ? answer
                : new int[] {then.pairs(), then.families(), then.longest()[0], then.numbers.size()}[what];
    }

    public int longest(int what) {
        return what < 0 || what > 2 ? INVALID : now.numbers.isEmpty() ? NOT_FOUND : now.longest()[what];
    }

    public int bestStrike() {
        int best = NOT_FOUND;
        int most = -1;
        for (int step = 0; step < now.numbers.size(); step++) {
            for (int prime : factors(now.number(step))) {
                State then = now.copy();
                then.deed(2, step, prime);
                if (then.pairs() > most) {
                    most = then.pairs();
                    best = 10000 * step + prime;
                }
            }
        }
        return best;
    }

    public int undo() {
        if (history.isEmpty()) {
            return NOT_POSSIBLE;
        }
        now = history.remove(history.size() - 1);
        return history.size();
    }

    public int save() {
        snapshot = now.copy();
        return now.numbers.size();
    }

    public int restore() {
        return snapshot == null ? NOT_POSSIBLE : change(snapshot.copy(), snapshot.numbers.size());
    }
}
