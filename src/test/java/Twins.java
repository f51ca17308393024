import java.util.ArrayList;
import java.util.List;

/** Two objects with the same past: one gets some more calls that must leave no trace, and then both must answer alike. */
final class Twins {
    /** Some calls on an object. */
    interface Calls {
        void on(PulseWheel x);
    }

    private static final int[] EVENTS = {0, 1, 2, 299};
    private static final int[] MS = {2, 4};
    private static final int[] MOVES = {1, 2, 6, 500};
    private static final int[] TEETH = {0, 1, 3, 63};

    private Twins() {
    }

    /** A past with something of everything: lines half held, a fault, a slip, a whole turn, both apart, a tape, images. */
    static void busy(PulseWheel x) {
        x.turn(0, 4);
        x.hold(1, 3);
        x.tick(3, 0, 4);
        for (int turn = 0; turn < 3; turn++) {
            x.tick(1, 1, 0);
            x.tick(2, 3, 0);
            x.tick(1, 2, 0);
            x.tick(1, 4, 0);
        }
        x.tick(1, 1, 0);
        x.tick(1, 5, 0);
        x.keep(1);
        x.tick(4, 2, 3);
        x.tick(2, 2, 4);
        x.feed(0x01030200, 0x08182010, 0x04002400, 0x3f000000, 0x01010303);
    }

    /** What is asked and done behind that, so that what can't be asked shows, too. */
    private static void goOn(PulseWheel x, List<Integer> answers) {
        answers.add(x.tick(1, 3, 4));
        ask(x, answers);
        answers.add(x.play(20));
        answers.add(x.of(0, 0));
        answers.add(x.of(1, 0));
        answers.add(x.apart());
        for (int k = 0; k < 4; k++) {
            answers.add(x.back(k) ? 1 : 0);
            answers.add(x.about(0));
        }
    }

    private static void ask(PulseWheel x, List<Integer> answers) {
        for (int reader = 0; reader < 2; reader++) {
            askReader(x, reader, answers);
        }
        answers.add(x.apart());
        for (int what = 0; what < 3; what++) {
            answers.add(x.about(what));
        }
    }

    private static void askReader(PulseWheel x, int reader, List<Integer> answers) {
        for (int what = 0; what < 12; what++) {
            answers.add(x.of(reader, what));
        }
        answers.add(x.origin(reader));
        for (int k : EVENTS) {
            for (int what = 0; what < 3; what++) {
                answers.add(x.event(reader, k, what));
            }
        }
        answers.add(x.row(reader));
        for (int m : MS) {
            for (int part = 0; part < 4; part++) {
                answers.add(x.period(reader, m, part));
            }
        }
        for (int n : MOVES) {
            answers.add(x.moved(reader, n));
        }
        for (int k : TEETH) {
            answers.add(x.tooth(reader, k));
        }
        answers.add(x.wholes(reader));
        answers.add(x.widest(reader));
    }

    /** What an object answers now and behind some more calls. */
    private static List<Integer> answersOf(PulseWheel x) {
        List<Integer> answers = new ArrayList<>();
        ask(x, answers);
        goOn(x, answers);
        return answers;
    }

    /** Behind these calls all must be as it was ahead of them. */
    static void dueAsBefore(String what, Calls past, Calls calls) {
        PulseWheel told = new PulseWheel();
        PulseWheel untold = new PulseWheel();
        past.on(told);
        past.on(untold);
        calls.on(told);
        List<Integer> gots = answersOf(told);
        List<Integer> wants = answersOf(untold);
        for (int i = 0; i < wants.size(); i++) {
            Check.due(what + ": answer " + i, gots.get(i), wants.get(i));
        }
    }

    /** Of a busy past, and of none. */
    static void dueNothingDone(String what, Calls refused) {
        dueAsBefore(what + " does nothing, busy", Twins::busy, refused);
        dueAsBefore(what + " does nothing, new", x -> { }, refused);
    }
}
