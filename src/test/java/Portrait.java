import java.util.ArrayList;
import java.util.List;

/** What calls show of an object, call by call; the object is used up by it. */
final class Portrait {
    private static final int[] PRIMES = {2, 3, 5, 7, 11, 97, 9973};
    /** An object answers 512 calls; the rest is for those that bring it to its state. */
    private static final int MOST_CALLS = 380;

    private final List<String> answers = new ArrayList<>();
    private final StairKin x;

    private Portrait(StairKin x) {
        this.x = x;
    }

    /** The steps, settings and accounts now, those of each state of the history, and those of the snapshot. */
    static List<String> ofState(StairKin x) {
        Portrait portrait = new Portrait(x);
        portrait.lookAtSteps();
        portrait.look("now");
        for (int turn = 1; turn <= 5; turn++) {
            int held = x.undo();
            portrait.told("undo " + turn, held);
            if (held >= 0) {
                portrait.look("behind undo " + turn);
            }
        }
        portrait.told("restore", x.restore());
        portrait.look("behind restore");
        return portrait.end();
    }

    /** The pad, what it brings if it is carried out or read, and why(). */
    static List<String> ofPad(StairKin x) {
        Portrait portrait = new Portrait(x);
        portrait.faults();
        portrait.told("carryOut", x.carryOut());
        portrait.look("behind carryOut");
        portrait.told("read", x.read());
        portrait.look("behind read");
        portrait.told("append 5", x.append('5'));
        portrait.faults();
        portrait.told("take", x.take(0));
        portrait.told("read 5", x.read());
        portrait.look("behind read 5");
        portrait.told("clear", x.clear());
        return portrait.end();
    }

    private List<String> end() {
        Check.same("calls of a portrait: " + answers.size(), answers.size() <= MOST_CALLS ? 1 : 0, 1);
        return answers;
    }

    private void told(String call, Object answer) {
        answers.add(call + ": " + answer);
    }

    private void faults() {
        for (int way = 0; way < 2; way++) {
            told("fault " + way, x.fault(way));
        }
        for (int what = 0; what < 3; what++) {
            told("why " + what, x.why(what));
        }
    }

    private void look(String when) {
        for (int what = 0; what < 14; what++) {
            told(when + ", count " + what, x.count(what));
        }
        for (int step = 0; step < 12; step++) {
            told(when + ", step " + step, x.step(step, 0));
        }
        for (int prime : PRIMES) {
            told(when + ", chips of " + prime, x.prime(prime, 0));
            told(when + ", came of " + prime, x.prime(prime, 1));
        }
    }

    private void lookAtSteps() {
        for (int step = 0; step < 12; step++) {
            for (int what = 1; what < 8; what += 2) {
                told("step " + step + ", " + what, x.step(step, what));
            }
        }
        told("mean", x.mean());
        told("crown", x.crown());
        told("longest", x.longest(2));
        told("best strike", x.bestStrike());
    }
}
