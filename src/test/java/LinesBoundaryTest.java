/** The edges of the lines, of HOLD and TURN, of phases, and of beginning anew: promises 1, 2, 3 and 7, a test for each. */
public final class LinesBoundaryTest {
    private static final int NONE = PulseWheel.NONE;
    private static final int NO_VALUE = -2000000;
    private static final int[] BITS = {0, 1, 3, 2};
    private static final int[] NO_READERS = {-1, 2, Integer.MIN_VALUE, Integer.MAX_VALUE};

    private LinesBoundaryTest() {
    }

    public static void main(String[] args) {
        newObjectHasNoTicks();
        newObjectHasAllAtFirst();
        newObjectHasNothingOfAnother();
        holdTooSmall();
        holdTooLarge();
        holdLeastAndMost();
        holdOfNoReader();
        holdRefusedDoesNothing();
        lineChangesInTheLastTickOfHold();
        lineBeginsAgainBehindABounce();
        lineIsHeldOverCalls();
        lineStaysWhileRawIsTheSame();
        holdIsOfOneReader();
        turnTooSmall();
        turnTooLarge();
        turnLeastAndMost();
        turnOfNoReader();
        turnRefusedDoesNothing();
        anewByTheSame();
        anewIsAllAtFirst();
        anewKeepsTheOtherOfHoldAndTurn();
        anewLeavesTheOtherReader();
        anewForgetsLinesHalfHeld();
        anewTicksGoOn();
        anewSeesARawThatStays();
        phaseWrapsForward();
        phaseWrapsBack();
        phaseFaults();
        phaseWithoutChangeIsNoEvent();
        ofNoReader();
        ofNoSuchWhat();
        ofFirstAndLastWhat();
        Check.end();
    }

    private static void dueOf(String when, PulseWheel x, int reader, int... wants) {
        for (int what = 0; what < wants.length; what++) {
            Check.due(when + ": of(" + reader + ", " + what + ")", x.of(reader, what), wants[what]);
        }
    }

    /** "No TICKS." */
    private static void newObjectHasNoTicks() {
        PulseWheel x = new PulseWheel();
        Check.due("1 ticks", x.about(0), 0);
        for (int reader = 0; reader < 2; reader++) {
            Check.due("1 not one tick ago", x.moved(reader, 1), NO_VALUE);
            Check.due("1 no event", x.event(reader, 0, 1), NO_VALUE);
        }
        x.tick(1, 1, 1);
        Check.due("1 the first tick is 1", x.about(0), 1);
        Check.due("1 an event in tick 1, reader 0", x.event(0, 0, 1), 1);
        Check.due("1 an event in tick 1, reader 1", x.event(1, 0, 1), 1);
    }

    /** "CLEAN 0 at first", "HOLD (.. 1 at first)", "PLACE, LOW, HIGH are 0 at first", "TURN (.. 16 at first)". */
    private static void newObjectHasAllAtFirst() {
        PulseWheel x = new PulseWheel();
        for (int reader = 0; reader < 2; reader++) {
            dueOf("1 at first", x, reader, 0, 0, 0, 0, 0, 1, 16, 0, 0, 0, 0, 0);
            Check.due("1 no origin", x.origin(reader), NO_VALUE);
            Check.due("1 no whole turn", x.wholes(reader), 0);
            Check.due("1 the last tooth", x.tooth(reader, 15), 0);
            Check.due("1 no tooth behind it", x.tooth(reader, 16), NONE);
            Check.due("1 none is widest", x.widest(reader), NONE);
            Check.due("1 no row", x.row(reader), 0);
            Check.due("1 no period", x.period(reader, 2, 0), NONE);
        }
        Check.due("1 they agree", x.apart(), NONE);
        Check.due("1 the tape is empty", x.about(1), 0);
        Check.due("1 nothing to play", x.play(1), NONE);
        Check.due("1 no images", x.about(2), 0);
    }

    private static void newObjectHasNothingOfAnother() {
        PulseWheel busy = new PulseWheel();
        Twins.busy(busy);
        newObjectHasAllAtFirst();
        new PulseWheel().tick(7, 7, 7);
        Check.due("1 nor has the other something of it", busy.about(0), 26);
    }

    /** "HOLD (1 .. 16": too small. */
    private static void holdTooSmall() {
        PulseWheel x = new PulseWheel();
        for (int ticks : new int[] {0, -1, -16, Integer.MIN_VALUE}) {
            Check.due("2 hold(0, " + ticks + ")", x.hold(0, ticks), false);
            Check.due("2 hold(1, " + ticks + ")", x.hold(1, ticks), false);
        }
    }

    /** "HOLD (1 .. 16": too large. */
    private static void holdTooLarge() {
        PulseWheel x = new PulseWheel();
        for (int ticks : new int[] {17, 18, 32, 257, 65537, Integer.MAX_VALUE}) {
            Check.due("2 hold(0, " + ticks + ")", x.hold(0, ticks), false);
            Check.due("2 hold(1, " + ticks + ")", x.hold(1, ticks), false);
        }
    }

    /** "HOLD (1 .. 16": all that can be. */
    private static void holdLeastAndMost() {
        PulseWheel x = new PulseWheel();
        for (int ticks = 1; ticks <= 16; ticks++) {
            for (int reader = 0; reader < 2; reader++) {
                Check.due("2 hold of " + ticks, x.hold(reader, ticks), true);
                Check.due("2 it is " + ticks, x.of(reader, 5), ticks);
            }
        }
    }

    /** "READERS 0, 1": there is no other. */
    private static void holdOfNoReader() {
        PulseWheel x = new PulseWheel();
        for (int no : NO_READERS) {
            Check.due("2 hold(" + no + ", 1)", x.hold(no, 1), false);
            Check.due("2 hold(" + no + ", 16)", x.hold(no, 16), false);
        }
    }

    /** "false, doing nothing, if one can't be." */
    private static void holdRefusedDoesNothing() {
        Twins.dueNothingDone("2 hold refused", x -> {
            x.hold(0, 0);
            x.hold(1, 0);
            x.hold(0, 17);
            x.hold(1, 17);
            x.hold(-1, 2);
            x.hold(2, 2);
        });
    }

    /** "in that TICK by which RAW has been the other one for HOLD TICKS one behind the other, that one too." */
    private static void lineChangesInTheLastTickOfHold() {
        for (int hold = 1; hold <= 16; hold++) {
            for (int reader = 0; reader < 2; reader++) {
                for (int line = 1; line <= 4; line *= 2) {
                    lineChangesInTheLastTick(reader, line, hold);
                }
            }
        }
    }

    private static void lineChangesInTheLastTick(int reader, int line, int hold) {
        String when = "2 reader " + reader + ", line " + line + ", hold " + hold + ": ";
        int up = reader == 0 ? line : line << 3;
        PulseWheel x = new PulseWheel();
        x.hold(reader, hold);
        x.tick(hold - 1, up & 7, up >> 3);
        Check.due(when + "one tick too few up", x.of(reader, 4), 0);
        x.tick(1, up & 7, up >> 3);
        Check.due(when + "up", x.of(reader, 4), line);
        x.tick(hold - 1, 0, 0);
        Check.due(when + "one tick too few down", x.of(reader, 4), line);
        x.tick(1, 0, 0);
        Check.due(when + "down", x.of(reader, 4), 0);
        Check.due(when + "events", x.of(reader, 7), line == 4 ? 0 : 2);
        Check.due(when + "tick of the last", x.event(reader, 0, 1), line == 4 ? NO_VALUE : 2 * hold);
        Check.due(when + "zeros", x.of(reader, 10), line == 4 ? 1 : 0);
    }

    /** "one behind the other": a tick between makes it begin again, and for that line alone. */
    private static void lineBeginsAgainBehindABounce() {
        PulseWheel x = new PulseWheel();
        x.hold(0, 16);
        for (int i = 0; i < 20; i++) {
            x.tick(15, 3, 0);
            x.tick(1, 2, 0);
        }
        Check.due("2 A bounced, B did not", x.of(0, 4), 2);
        Check.due("2 one event", x.of(0, 7), 1);
        Check.due("2 in the sixteenth tick", x.event(0, 0, 1), 16);
        x.tick(16, 3, 0);
        Check.due("2 A at last", x.of(0, 4), 3);
        for (int i = 0; i < 20; i++) {
            x.tick(15, 2, 0);
            x.tick(1, 3, 0);
        }
        Check.due("2 A bounced down", x.of(0, 4), 3);
        x.hold(0, 2);
        for (int i = 0; i < 20; i++) {
            x.tick(1, 7, 0);
            x.tick(1, 0, 0);
        }
        Check.due("2 all change in each tick", x.of(0, 4), 0);
        Check.due("2 no events of it", x.of(0, 7), 0);
    }

    /** The ticks of a hold may be of several calls, and of the tape. */
    private static void lineIsHeldOverCalls() {
        PulseWheel x = new PulseWheel();
        x.hold(0, 4);
        x.tick(1, 1, 0);
        x.tick(0, 0, 0);
        x.feed(0x01010000, 0, 0, 0, 0);
        x.play(2);
        x.tick(1, 8, 0);
        x.of(0, 4);
        Check.due("2 three of four", x.of(0, 4), 0);
        x.tick(1, 1, 0);
        Check.due("2 four", x.of(0, 4), 1);
        Check.due("2 in tick 4", x.event(0, 0, 1), 4);
    }

    private static void lineStaysWhileRawIsTheSame() {
        PulseWheel x = new PulseWheel();
        x.hold(0, 16);
        x.tick(2000, 5, 0);
        Check.due("2 it became 1 once", x.of(0, 7), 1);
        Check.due("2 one zero", x.of(0, 10), 1);
        x.tick(15, 0, 0);
        Check.due("2 long held is no more than held", x.of(0, 4), 5);
        x.tick(1, 0, 0);
        Check.due("2 down", x.of(0, 4), 0);
    }

    private static void holdIsOfOneReader() {
        PulseWheel x = new PulseWheel();
        x.hold(0, 2);
        x.hold(1, 3);
        x.tick(2, 7, 7);
        Check.due("2 two ticks: reader 0", x.of(0, 4), 7);
        Check.due("2 two ticks: reader 1", x.of(1, 4), 0);
        x.tick(1, 0, 7);
        Check.due("2 three ticks: reader 0", x.of(0, 4), 7);
        Check.due("2 three ticks: reader 1", x.of(1, 4), 7);
    }

    /** "TURN (4 .. 64": too small. */
    private static void turnTooSmall() {
        PulseWheel x = new PulseWheel();
        for (int counts : new int[] {3, 2, 1, 0, -1, -4, -64, Integer.MIN_VALUE}) {
            Check.due("3 turn(0, " + counts + ")", x.turn(0, counts), false);
            Check.due("3 turn(1, " + counts + ")", x.turn(1, counts), false);
        }
    }

    /** "TURN (4 .. 64": too large. */
    private static void turnTooLarge() {
        PulseWheel x = new PulseWheel();
        for (int counts : new int[] {65, 66, 128, 260, 65540, Integer.MAX_VALUE}) {
            Check.due("3 turn(0, " + counts + ")", x.turn(0, counts), false);
            Check.due("3 turn(1, " + counts + ")", x.turn(1, counts), false);
        }
    }

    /** "TURN (4 .. 64": all that can be. */
    private static void turnLeastAndMost() {
        PulseWheel x = new PulseWheel();
        for (int counts = 4; counts <= 64; counts++) {
            for (int reader = 0; reader < 2; reader++) {
                Check.due("3 turn of " + counts, x.turn(reader, counts), true);
                Check.due("3 it is " + counts, x.of(reader, 6), counts);
            }
        }
    }

    private static void turnOfNoReader() {
        PulseWheel x = new PulseWheel();
        for (int no : NO_READERS) {
            Check.due("3 turn(" + no + ", 4)", x.turn(no, 4), false);
            Check.due("3 turn(" + no + ", 64)", x.turn(no, 64), false);
        }
    }

    /** "likewise": false, doing nothing, if one can't be. */
    private static void turnRefusedDoesNothing() {
        Twins.dueNothingDone("3 turn refused", x -> {
            x.turn(0, 3);
            x.turn(1, 3);
            x.turn(0, 65);
            x.turn(1, 65);
            x.turn(-1, 8);
            x.turn(2, 8);
        });
    }

    /** "(the same, too)". */
    private static void anewByTheSame() {
        for (int reader = 0; reader < 2; reader++) {
            Hand byHold = new Hand();
            byHold.moveMarked(reader, 3);
            Check.due("2 the same hold", byHold.wheel.hold(reader, 1), true);
            dueOf("2 anew by the same hold", byHold.wheel, reader, 0, 0, 0, 0, 0, 1, 16, 0, 0, 0, 0, 0);
            Hand byTurn = new Hand();
            byTurn.moveMarked(reader, 3);
            Check.due("3 the same turn", byTurn.wheel.turn(reader, 16), true);
            dueOf("3 anew by the same turn", byTurn.wheel, reader, 0, 0, 0, 0, 0, 1, 16, 0, 0, 0, 0, 0);
        }
    }

    /** "begins anew: all of it as at first". */
    private static void anewIsAllAtFirst() {
        for (int reader = 0; reader < 2; reader++) {
            for (boolean byHold : new boolean[] {true, false}) {
                Hand hand = new Hand();
                hand.turn(reader, 4);
                hand.moveMarked(reader, 1);
                hand.moveMarked(reader, 4);
                hand.move(reader, 310);
                hand.zero(reader);
                hand.fault(reader);
                PulseWheel x = hand.wheel;
                Check.due("2 a whole turn ahead of it", x.wholes(reader), 1);
                Check.due("2 a slip ahead of it", x.of(reader, 9), 1);
                Check.due("2 told", byHold ? x.hold(reader, 2) : x.turn(reader, 5), true);
                dueAllAtFirst(x, reader, byHold ? 2 : 1, byHold ? 4 : 5);
            }
        }
    }

    private static void dueAllAtFirst(PulseWheel x, int reader, int hold, int turn) {
        dueOf("2 anew", x, reader, 0, 0, 0, 0, 0, hold, turn, 0, 0, 0, 0, 0);
        Check.due("2 anew: origin", x.origin(reader), NO_VALUE);
        for (int what = 0; what < 3; what++) {
            Check.due("2 anew: latest event", x.event(reader, 0, what), NO_VALUE);
            Check.due("2 anew: oldest event", x.event(reader, 299, what), NO_VALUE);
        }
        Check.due("2 anew: row", x.row(reader), 0);
        Check.due("2 anew: period", x.period(reader, 2, 0), NONE);
        Check.due("2 anew: moved", x.moved(reader, 1), NO_VALUE);
        Check.due("2 anew: moved far", x.moved(reader, 500), NO_VALUE);
        for (int k = 0; k < turn; k++) {
            Check.due("2 anew: tooth " + k, x.tooth(reader, k), 0);
        }
        Check.due("2 anew: wholes", x.wholes(reader), 0);
        Check.due("2 anew: widest", x.widest(reader), NONE);
    }

    /** "but for these two": HOLD stays when TURN is told, and TURN when HOLD is. */
    private static void anewKeepsTheOtherOfHoldAndTurn() {
        PulseWheel x = new PulseWheel();
        x.hold(0, 16);
        x.turn(0, 64);
        Check.due("3 hold stays", x.of(0, 5), 16);
        x.hold(0, 1);
        Check.due("2 turn stays", x.of(0, 6), 64);
        Check.due("2 hold is told", x.of(0, 5), 1);
    }

    private static void anewLeavesTheOtherReader() {
        for (int reader = 0; reader < 2; reader++) {
            Hand hand = new Hand();
            hand.turn(reader, 4);
            hand.moveMarked(reader, 1);
            hand.moveMarked(reader, 4);
            hand.hold(1 - reader, 7);
            hand.turn(1 - reader, 7);
            dueOf("2 the other one", hand.wheel, reader, 5, 5, 5, 1, 5, 1, 4, 5, 0, 0, 2, 1);
            Check.due("2 its whole turn", hand.wheel.wholes(reader), 1);
            Check.due("2 its way", hand.wheel.moved(reader, 5), 5);
            Check.due("2 its events", hand.wheel.event(reader, 4, 1), 1);
            Check.due("2 its row", hand.wheel.row(reader), 5);
            Check.due("2 its origin", hand.wheel.origin(reader), 1);
        }
    }

    private static void anewForgetsLinesHalfHeld() {
        for (boolean byHold : new boolean[] {true, false}) {
            PulseWheel x = new PulseWheel();
            x.hold(0, 16);
            x.tick(15, 7, 0);
            Check.due("2 told", byHold ? x.hold(0, 16) : x.turn(0, 16), true);
            x.tick(15, 7, 0);
            Check.due("2 fifteen since", x.of(0, 4), 0);
            x.tick(1, 7, 0);
            Check.due("2 sixteen since", x.of(0, 4), 7);
        }
    }

    /** "and the TICKS, which go on." */
    private static void anewTicksGoOn() {
        PulseWheel x = new PulseWheel();
        x.tick(2000, 0, 0);
        x.hold(0, 1);
        x.turn(1, 4);
        Check.due("2 ticks", x.about(0), 2000);
        x.tick(1, 1, 2);
        Check.due("2 the next tick, reader 0", x.event(0, 0, 1), 2001);
        Check.due("3 the next tick, reader 1", x.event(1, 0, 1), 2001);
    }

    /** A line is clean 0 anew though raw is still 1: it becomes 1 once more, and Z is a zero once more. */
    private static void anewSeesARawThatStays() {
        PulseWheel x = new PulseWheel();
        x.tick(3, 5, 0);
        x.hold(0, 1);
        Check.due("2 clean 0 anew", x.of(0, 4), 0);
        x.tick(1, 5, 0);
        dueOf("2 up once more", x, 0, 1, 1, 1, 1, 5, 1, 16, 1, 0, 0, 1, 1);
        Check.due("2 origin", x.origin(0), 1);
    }

    /** "FORWARD if it is one more than it was (0 behind 3)". */
    private static void phaseWrapsForward() {
        for (int reader = 0; reader < 2; reader++) {
            Hand hand = new Hand();
            for (int counts = 1; counts <= 9; counts++) {
                hand.move(reader, 1);
                dueOf("4 forward " + counts, hand.wheel, reader, counts, counts, counts, counts % 4, BITS[counts % 4]);
                Check.due("4 it is forward", hand.wheel.event(reader, 0, 0), 1);
            }
            Check.due("4 no fault", hand.wheel.of(reader, 8), 0);
        }
    }

    /** "BACK if it is one less (3 behind 0)". */
    private static void phaseWrapsBack() {
        for (int reader = 0; reader < 2; reader++) {
            Hand hand = new Hand();
            for (int counts = 1; counts <= 9; counts++) {
                hand.move(reader, -1);
                int phase = Math.floorMod(-counts, 4);
                dueOf("4 back " + counts, hand.wheel, reader, -counts, -counts, -counts, phase, BITS[phase]);
                Check.due("4 it is back", hand.wheel.event(reader, 0, 0), -1);
            }
            Check.due("4 no fault", hand.wheel.of(reader, 8), 0);
        }
    }

    /** "else a FAULT: LOW is 2 less, HIGH 2 more", and PLACE stays: from each of the four phases. */
    private static void phaseFaults() {
        for (int reader = 0; reader < 2; reader++) {
            for (int from = 0; from < 4; from++) {
                Hand hand = new Hand();
                hand.move(reader, from);
                hand.fault(reader);
                dueOf("4 fault from " + from, hand.wheel, reader, from, from - 2, from + 2, (from + 2) % 4,
                    BITS[(from + 2) % 4], 1, 16, from + 1, 1);
                Check.due("4 it is a fault", hand.wheel.event(reader, 0, 0), 0);
                hand.fault(reader);
                dueOf("4 and back from it", hand.wheel, reader, from, from - 4, from + 4, from, BITS[from], 1, 16,
                    from + 2, 2);
                hand.move(reader, -1);
                dueOf("4 doubtful goes back", hand.wheel, reader, from - 1, from - 5, from + 3);
                hand.move(reader, 2);
                dueOf("4 doubtful goes forward", hand.wheel, reader, from + 1, from - 3, from + 5);
            }
        }
    }

    /** "When it changes in a TICK there is an EVENT": else there is none, whatever Z does. */
    private static void phaseWithoutChangeIsNoEvent() {
        PulseWheel x = new PulseWheel();
        x.tick(9, 0, 0);
        x.tick(9, 4, 4);
        x.tick(9, 0, 0);
        for (int reader = 0; reader < 2; reader++) {
            Check.due("4 no events", x.of(reader, 7), 0);
            Check.due("4 none kept", x.event(reader, 0, 0), NO_VALUE);
            Check.due("4 Z up is a zero, Z down is none", x.of(reader, 10), 1);
        }
    }

    /** "-2000000 if there is none such.": no such reader. */
    private static void ofNoReader() {
        PulseWheel x = new PulseWheel();
        Twins.busy(x);
        for (int no : NO_READERS) {
            for (int what = 0; what < 12; what++) {
                Check.due("7 of(" + no + ", " + what + ")", x.of(no, what), NO_VALUE);
            }
        }
    }

    /** "-2000000 if there is none such.": no such what. */
    private static void ofNoSuchWhat() {
        PulseWheel x = new PulseWheel();
        Twins.busy(x);
        for (int no : new int[] {-1, -12, 12, 13, Integer.MIN_VALUE, Integer.MAX_VALUE}) {
            Check.due("7 of(0, " + no + ")", x.of(0, no), NO_VALUE);
            Check.due("7 of(1, " + no + ")", x.of(1, no), NO_VALUE);
        }
    }

    private static void ofFirstAndLastWhat() {
        PulseWheel x = new PulseWheel();
        x.tick(1, 7, 5);
        dueOf("7 doubtful, so no origin", x, 0, 0, -2, 2, 2, 7, 1, 16, 1, 1, 0, 1, 0);
        dueOf("7 with an origin", x, 1, 1, 1, 1, 1, 5, 1, 16, 1, 0, 0, 1, 1);
        x.tick(1, 5, 0);
        dueOf("7 still none", x, 0, -1, -3, 1, 1, 5, 1, 16, 2, 1, 0, 1, 0);
        x.tick(1, 5, 4);
        dueOf("7 a slip", x, 1, 0, 0, 0, 0, 4, 1, 16, 2, 0, 1, 2, 1);
    }
}
