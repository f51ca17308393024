/** The edges of origins, slips, whole turns and of agreeing: promises 8, 13, 14, 15 and 16, a test for each. */
public final class TurnsBoundaryTest {
    private static final int NONE = PulseWheel.NONE;
    private static final int NO_VALUE = -2000000;
    private static final int[] NO_READERS = {-1, 2, Integer.MIN_VALUE, Integer.MAX_VALUE};
    private static final int[] TURNS = {4, 5, 16, 63, 64};

    private TurnsBoundaryTest() {
    }

    public static void main(String[] args) {
        originNoReader();
        originWithout();
        originAtNone();
        originBehindWhatLinesDid();
        originNotWhileDoubtful();
        originNotInTheTickOfAFault();
        originStays();
        zeroMustBecomeOne();
        zeroIsHeldOff();
        zeroFindsNoneOneOrSeveral();
        zeroAtTheEndsOfDoubt();
        slipChangesNothing();
        severalChangeNothing();
        toothNoReader();
        toothTooSmall();
        toothTooLarge();
        toothWithoutAWholeTurn();
        toothOfLeastAndMostTurn();
        toothSumsOfAll();
        toothOfALongWait();
        wholesNoReader();
        wholesOfFewerOrMoreThanTurn();
        wholesWithNoneAhead();
        wholesWithOneAheadInTheTickOfTheZero();
        wholesWithOneAheadBefore();
        wholesWithAnySortAhead();
        wholesWithAZeroBehindTheLast();
        wholesNotOfBack();
        wholesNotWithOneBackOrFault();
        wholesFromOneZeroToTheNext();
        wholesWithoutAFirstZero();
        widestNoReader();
        widestWithoutAWholeTurn();
        widestFirstOfTheSame();
        widestFirstAndLastTooth();
        apartAtFirst();
        apartWithoutAnOrigin();
        apartByMoreThanBothTurns();
        apartFromItsFirstTick();
        apartAgain();
        apartFromSideToSide();
        apartUpToTheLastTick();
        apartInTheTickOfAnOrigin();
        apartOfFarPlaces();
        Check.end();
    }

    private static void dueOf(String when, PulseWheel x, int reader, int... wants) {
        for (int what = 0; what < wants.length; what++) {
            Check.due(when + ": of(" + reader + ", " + what + ")", x.of(reader, what), wants[what]);
        }
    }

    private static Hand withTurn(int reader, int turn) {
        Hand hand = new Hand();
        hand.turn(reader, turn);
        return hand;
    }

    /** "ORIGIN of a READER; -2000000 without.": no such reader. */
    private static void originNoReader() {
        Hand hand = new Hand();
        hand.zeroOfBoth();
        for (int no : NO_READERS) {
            Check.due("8 origin(" + no + ")", hand.wheel.origin(no), NO_VALUE);
        }
    }

    /** "-2000000 without." */
    private static void originWithout() {
        Hand hand = new Hand();
        hand.move(0, 9);
        Check.due("8 no zero yet", hand.wheel.origin(0), NO_VALUE);
        hand.zero(0);
        Check.due("8 with one", hand.wheel.origin(0), 9);
        Check.due("8 not the other", hand.wheel.origin(1), NO_VALUE);
        hand.hold(0, 1);
        Check.due("8 anew", hand.wheel.origin(0), NO_VALUE);
    }

    /** An origin of 0 is one. */
    private static void originAtNone() {
        Hand hand = new Hand();
        hand.zero(1);
        Check.due("8 origin 0", hand.wheel.origin(1), 0);
        Check.due("8 it has one", hand.wheel.of(1, 11), 1);
        Check.due("8 the other has none", hand.wheel.of(0, 11), 0);
    }

    /** "A ZERO is there when Z becomes CLEAN 1, behind what A and B did in that TICK." */
    private static void originBehindWhatLinesDid() {
        for (int reader = 0; reader < 2; reader++) {
            for (int counts : new int[] {1, -1, 7, -7, 301, -301}) {
                Hand hand = new Hand();
                hand.moveMarked(reader, counts);
                Check.due("8 origin", hand.wheel.origin(reader), counts);
            }
        }
    }

    /** "gets PLACE as its ORIGIN, if LOW is HIGH": else no zero gives one, and none is a slip. */
    private static void originNotWhileDoubtful() {
        Hand hand = withTurn(0, 4);
        hand.fault(0);
        for (int i = 1; i <= 5; i++) {
            hand.zero(0);
            Check.due("8 no origin", hand.wheel.origin(0), NO_VALUE);
            hand.move(0, 1);
            Check.due("8 zeros", hand.wheel.of(0, 10), i);
        }
        Check.due("8 no slip", hand.wheel.of(0, 9), 0);
        dueOf("8 nothing changes", hand.wheel, 0, 5, 3, 7);
        hand.turn(0, 4);
        hand.zero(0);
        Check.due("8 anew it is not doubtful", hand.wheel.origin(0), 0);
    }

    private static void originNotInTheTickOfAFault() {
        Hand hand = new Hand();
        hand.faultMarked(0);
        Check.due("8 doubtful by that very tick", hand.wheel.origin(0), NO_VALUE);
        Check.due("8 a zero all the same", hand.wheel.of(0, 10), 1);
    }

    private static void originStays() {
        Hand hand = withTurn(0, 4);
        hand.moveMarked(0, 2);
        hand.moveMarked(0, 4);
        hand.rest(1);
        hand.moveMarked(0, 1);
        hand.moveMarked(0, -9);
        Check.due("8 the first one", hand.wheel.origin(0), 2);
        Check.due("8 in place, a slip, in place", hand.wheel.of(0, 9), 1);
    }

    /** "when Z becomes CLEAN 1": not while it is, and not when it becomes 0. */
    private static void zeroMustBecomeOne() {
        PulseWheel x = new PulseWheel();
        x.tick(100, 4, 0);
        Check.due("8 one zero", x.of(0, 10), 1);
        x.tick(1, 5, 0);
        Check.due("8 the origin is from the first tick", x.origin(0), 0);
        x.tick(1, 1, 0);
        Check.due("8 none by going", x.of(0, 10), 1);
        x.tick(1, 5, 0);
        Check.due("8 another", x.of(0, 10), 2);
        Check.due("8 a slip", x.of(0, 9), 1);
    }

    private static void zeroIsHeldOff() {
        PulseWheel x = new PulseWheel();
        x.hold(0, 16);
        x.tick(15, 4, 0);
        Check.due("8 not yet", x.of(0, 10), 0);
        x.tick(1, 0, 0);
        x.tick(15, 4, 0);
        Check.due("8 a bounce", x.of(0, 10), 0);
        x.tick(1, 4, 0);
        Check.due("8 a zero", x.of(0, 10), 1);
        x.tick(15, 0, 0);
        x.tick(100, 4, 0);
        Check.due("8 a bounce down is no other zero", x.of(0, 10), 1);
    }

    /** "of the places ORIGIN + k * TURN (k any whole number) those from LOW to HIGH are looked at". */
    private static void zeroFindsNoneOneOrSeveral() {
        for (int turn : new int[] {4, 5, 6, 16, 64}) {
            for (int origin : new int[] {0, 3, -3}) {
                for (int faults : new int[] {0, 1, 2, 3, 16}) {
                    for (int way = -turn - 5; way <= turn + 5; way++) {
                        zeroFinds(turn, origin, faults, way);
                    }
                }
            }
        }
    }

    private static void zeroFinds(int turn, int origin, int faults, int way) {
        Hand hand = withTurn(0, turn);
        hand.move(0, origin);
        hand.zero(0);
        hand.move(0, way);
        for (int i = 0; i < faults; i++) {
            hand.fault(0);
        }
        hand.rest(1);
        hand.zero(0);
        int place = origin + way;
        int found = 0;
        int last = 0;
        for (int p = place - 2 * faults; p <= place + 2 * faults; p++) {
            if ((p - origin) % turn == 0) {
                found++;
                last = p;
            }
        }
        String when = "8 turn " + turn + ", origin " + origin + ", " + faults + " faults, moved " + way;
        if (found == 1) {
            dueOf(when, hand.wheel, 0, last, last, last);
        } else {
            dueOf(when, hand.wheel, 0, place, place - 2 * faults, place + 2 * faults);
        }
        Check.due(when + ": slips", hand.wheel.of(0, 9), found == 0 ? 1 : 0);
        Check.due(when + ": origin", hand.wheel.origin(0), origin);
    }

    /** "those from LOW to HIGH": both ends are among them, and one place farther is not. */
    private static void zeroAtTheEndsOfDoubt() {
        int[][] wayAndPlaceAndSlips = {{13, 13, 1}, {14, 16, 0}, {18, 16, 0}, {19, 19, 1},
            {-13, -13, 1}, {-14, -16, 0}, {-18, -16, 0}, {-19, -19, 1}};
        for (int[] w : wayAndPlaceAndSlips) {
            Hand hand = new Hand();
            hand.zero(1);
            hand.move(1, w[0]);
            hand.faultMarked(1);
            Check.due("8 place by " + w[0], hand.wheel.of(1, 0), w[1]);
            Check.due("8 slips by " + w[0], hand.wheel.of(1, 9), w[2]);
        }
    }

    /** "is there none, it is a SLIP (they are counted; nothing changes)". */
    private static void slipChangesNothing() {
        Hand hand = new Hand();
        hand.zero(0);
        hand.move(0, 8);
        hand.fault(0);
        for (int i = 1; i <= 3; i++) {
            hand.zero(0);
            hand.rest(1);
            dueOf("8 a slip", hand.wheel, 0, 8, 6, 10, 2, 3, 1, 16, 9, 1, i, i + 1, 1);
        }
        Check.due("8 origin", hand.wheel.origin(0), 0);
    }

    /** "of several nothing changes." */
    private static void severalChangeNothing() {
        Hand hand = withTurn(0, 4);
        hand.zero(0);
        hand.move(0, 2);
        hand.faultMarked(0);
        dueOf("8 0 and 4, both at the ends", hand.wheel, 0, 2, 0, 4, 0, 4, 1, 4, 3, 1, 0, 2, 1);
        hand.fault(0);
        hand.zero(0);
        dueOf("8 0 and 4 inside", hand.wheel, 0, 2, -2, 6, 2, 7, 1, 4, 4, 2, 0, 3, 1);
        hand.fault(0);
        hand.zero(0);
        dueOf("8 -4, 0, 4, 8", hand.wheel, 0, 2, -4, 8, 0, 4, 1, 4, 5, 3, 0, 4, 1);
    }

    /** "NONE if there is none such.": no such reader. */
    private static void toothNoReader() {
        Hand hand = withTurn(0, 4);
        hand.moveMarked(0, 1);
        hand.moveMarked(0, 4);
        for (int no : NO_READERS) {
            Check.due("13 tooth(" + no + ", 0)", hand.wheel.tooth(no, 0), NONE);
        }
    }

    /** "TOOTH k (0 .. TURN - 1)": too small. */
    private static void toothTooSmall() {
        Hand hand = withTurn(0, 4);
        hand.moveMarked(0, 1);
        hand.moveMarked(0, 4);
        for (int k : new int[] {-1, -4, -64, Integer.MIN_VALUE}) {
            Check.due("13 tooth(0, " + k + ")", hand.wheel.tooth(0, k), NONE);
        }
    }

    /** "TOOTH k (0 .. TURN - 1)": too large, for each TURN. */
    private static void toothTooLarge() {
        for (int turn = 4; turn <= 64; turn++) {
            PulseWheel x = new PulseWheel();
            x.turn(1, turn);
            Check.due("13 the last of " + turn, x.tooth(1, turn - 1), 0);
            Check.due("13 none behind the last of " + turn, x.tooth(1, turn), NONE);
            Check.due("13 none far behind", x.tooth(1, 65), NONE);
            Check.due("13 none at the end of all", x.tooth(1, Integer.MAX_VALUE), NONE);
        }
    }

    /** Its sum is of no turns then. */
    private static void toothWithoutAWholeTurn() {
        Hand hand = withTurn(0, 4);
        hand.moveMarked(0, 1);
        hand.move(0, 3);
        for (int k = 0; k < 4; k++) {
            Check.due("13 tooth " + k, hand.wheel.tooth(0, k), 0);
        }
        hand.moveMarked(0, 1);
        Check.due("13 with one", hand.wheel.tooth(0, 3), 1);
    }

    private static void toothOfLeastAndMostTurn() {
        for (int turn : TURNS) {
            for (int reader = 0; reader < 2; reader++) {
                Hand hand = withTurn(reader, turn);
                hand.moveMarked(reader, 1);
                hand.rest(2);
                hand.move(reader, turn - 1);
                hand.rest(5);
                hand.moveMarked(reader, 1);
                Check.due("13 wholes of turn " + turn, hand.wheel.wholes(reader), 1);
                for (int k = 0; k < turn; k++) {
                    int want = k == 0 ? 3 : k == turn - 1 ? 6 : 1;
                    Check.due("13 tooth " + k + " of " + turn, hand.wheel.tooth(reader, k), want);
                }
            }
        }
    }

    /** "sums of all WHOLE TURNS are kept", and nothing of the others. */
    private static void toothSumsOfAll() {
        Hand hand = withTurn(0, 64);
        hand.moveMarked(0, 1);
        for (int i = 1; i <= 6; i++) {
            hand.rest(i);
            hand.moveMarked(0, 64);
            hand.rest(100);
            hand.moveMarked(0, 63);
            hand.rest(1);
            hand.moveMarked(0, 1);
            Check.due("13 wholes", hand.wheel.wholes(0), i);
            Check.due("13 first tooth", hand.wheel.tooth(0, 0), i + i * (i + 1) / 2);
            Check.due("13 last tooth", hand.wheel.tooth(0, 63), i);
        }
    }

    private static void toothOfALongWait() {
        Hand hand = withTurn(0, 4);
        hand.moveMarked(0, 1);
        hand.rest(900000);
        hand.moveMarked(0, 4);
        Check.due("13 the first", hand.wheel.tooth(0, 0), 900001);
        hand.rest(90000);
        hand.moveMarked(0, 4);
        Check.due("13 both", hand.wheel.tooth(0, 0), 990002);
        Check.due("13 widest", hand.wheel.widest(0), 0);
    }

    /** "NONE if there is no such READER." */
    private static void wholesNoReader() {
        Hand hand = withTurn(0, 4);
        hand.moveMarked(0, 1);
        hand.moveMarked(0, 4);
        for (int no : NO_READERS) {
            Check.due("14 wholes(" + no + ")", hand.wheel.wholes(no), NONE);
        }
        Check.due("14 of 0", hand.wheel.wholes(0), 1);
        Check.due("14 of 1", hand.wheel.wholes(1), 0);
    }

    /** "are just TURN". */
    private static void wholesOfFewerOrMoreThanTurn() {
        for (int turn : TURNS) {
            for (int counts : new int[] {1, turn - 1, turn, turn + 1, 2 * turn}) {
                Hand hand = withTurn(1, turn);
                hand.moveMarked(1, 1);
                hand.rest(1);
                hand.moveMarked(1, counts);
                Check.due("14 " + counts + " of turn " + turn, hand.wheel.wholes(1), counts == turn ? 1 : 0);
            }
        }
    }

    /** "and there was one ahead". */
    private static void wholesWithNoneAhead() {
        for (int turn : TURNS) {
            Hand hand = withTurn(0, turn);
            hand.zero(0);
            hand.moveMarked(0, turn);
            Check.due("14 none ahead of the first zero", hand.wheel.wholes(0), 0);
            Check.due("14 nothing of its teeth", hand.wheel.tooth(0, 1), 0);
            hand.moveMarked(0, turn);
            Check.due("14 the next has one ahead", hand.wheel.wholes(0), 1);
        }
    }

    /** "(in the TICK of the first ZERO": it is not one of the turn, and the event in the tick of the next is. */
    private static void wholesWithOneAheadInTheTickOfTheZero() {
        Hand hand = withTurn(0, 4);
        hand.moveMarked(0, 1);
        hand.move(0, 3);
        hand.zero(0);
        Check.due("14 three behind the first zero", hand.wheel.wholes(0), 0);
        hand.moveMarked(0, 4);
        Check.due("14 the last is in the tick of the zero", hand.wheel.wholes(0), 1);
        Check.due("14 from the event ahead of the zero between", hand.wheel.tooth(0, 0), 2);
        hand.moveMarked(0, 4);
        Check.due("14 from the event in the tick of the zero", hand.wheel.tooth(0, 0), 3);
        Check.due("14 two", hand.wheel.wholes(0), 2);
    }

    /** "or before; the latest is its number -1". */
    private static void wholesWithOneAheadBefore() {
        Hand hand = withTurn(0, 4);
        hand.move(0, 1);
        hand.rest(3);
        hand.move(0, 1);
        hand.rest(10);
        hand.zero(0);
        hand.rest(5);
        hand.moveMarked(0, 4);
        Check.due("14 one", hand.wheel.wholes(0), 1);
        Check.due("14 from the latest ahead", hand.wheel.tooth(0, 0), 17);
        Check.due("14 the next tooth", hand.wheel.tooth(0, 1), 1);
    }

    private static void wholesWithAnySortAhead() {
        Hand back = withTurn(0, 4);
        back.moveMarked(0, -1);
        back.moveMarked(0, 4);
        Check.due("14 one back ahead", back.wheel.wholes(0), 1);
        Hand fault = withTurn(0, 4);
        fault.faultMarked(0);
        fault.rest(7);
        fault.moveMarked(0, 4);
        Check.due("14 a fault ahead", fault.wheel.wholes(0), 1);
        Check.due("14 from it on", fault.wheel.tooth(0, 0), 8);
    }

    /** "up to that of the next": the zero may come ticks behind the last event. */
    private static void wholesWithAZeroBehindTheLast() {
        Hand hand = withTurn(0, 4);
        hand.moveMarked(0, 1);
        hand.move(0, 4);
        hand.rest(20);
        hand.zero(0);
        Check.due("14 one", hand.wheel.wholes(0), 1);
        Check.due("14 the wait is of no tooth yet", hand.wheel.tooth(0, 3), 1);
        hand.moveMarked(0, 4);
        Check.due("14 it is of the next turn's first", hand.wheel.tooth(0, 0), 1 + 22);
    }

    /** "all FORWARD". */
    private static void wholesNotOfBack() {
        for (int turn : TURNS) {
            Hand hand = withTurn(0, turn);
            hand.moveMarked(0, -1);
            hand.moveMarked(0, -turn);
            hand.moveMarked(0, -turn);
            Check.due("14 turns back of " + turn, hand.wheel.wholes(0), 0);
            Check.due("14 none is widest", hand.wheel.widest(0), NONE);
        }
    }

    /** "are just TURN, all FORWARD": one of another sort, at each place among them. */
    private static void wholesNotWithOneBackOrFault() {
        for (int at = 0; at < 6; at++) {
            Hand back = withTurn(0, 6);
            back.moveMarked(0, 1);
            back.move(0, at);
            back.move(0, -1);
            back.move(0, 5 - at);
            back.zero(0);
            Check.due("14 six events, one back at " + at, back.wheel.wholes(0), 0);
            Hand fault = withTurn(0, 6);
            fault.moveMarked(0, 1);
            fault.move(0, at);
            fault.fault(0);
            fault.move(0, 5 - at);
            fault.zero(0);
            Check.due("14 six events, a fault at " + at, fault.wheel.wholes(0), 0);
            Hand more = withTurn(0, 6);
            more.moveMarked(0, 1);
            more.move(0, at);
            more.move(0, -1);
            more.move(0, 7 - at);
            more.zero(0);
            Check.due("14 six counts in eight events", more.wheel.wholes(0), 0);
        }
    }

    /** "from one ZERO of a READER to the next one": one between makes two that are none. */
    private static void wholesFromOneZeroToTheNext() {
        Hand hand = withTurn(0, 8);
        hand.moveMarked(0, 1);
        hand.moveMarked(0, 5);
        hand.moveMarked(0, 3);
        Check.due("14 a zero between", hand.wheel.wholes(0), 0);
        hand.moveMarked(0, 8);
        Check.due("14 none between", hand.wheel.wholes(0), 1);
        hand.move(0, 4);
        hand.zero(1);
        hand.moveMarked(0, 4);
        Check.due("14 the other reader's is none between", hand.wheel.wholes(0), 2);
    }

    private static void wholesWithoutAFirstZero() {
        Hand hand = withTurn(0, 4);
        hand.move(0, 1);
        hand.moveMarked(0, 4);
        Check.due("14 no zero ahead", hand.wheel.wholes(0), 0);
        hand.turn(0, 4);
        hand.move(0, 5);
        hand.moveMarked(0, 4);
        Check.due("14 none since anew", hand.wheel.wholes(0), 0);
    }

    /** "NONE without a WHOLE TURN.": of no such reader there is none. */
    private static void widestNoReader() {
        Hand hand = withTurn(0, 4);
        hand.moveMarked(0, 1);
        hand.moveMarked(0, 4);
        for (int no : NO_READERS) {
            Check.due("15 widest(" + no + ")", hand.wheel.widest(no), NONE);
        }
        Check.due("15 widest(0)", hand.wheel.widest(0), 0);
    }

    /** "NONE without a WHOLE TURN." */
    private static void widestWithoutAWholeTurn() {
        Hand hand = withTurn(0, 4);
        Check.due("15 new", hand.wheel.widest(0), NONE);
        hand.moveMarked(0, 1);
        hand.moveMarked(0, 3);
        Check.due("15 a turn too short", hand.wheel.widest(0), NONE);
        hand.moveMarked(0, 5);
        Check.due("15 a turn too long", hand.wheel.widest(0), NONE);
        hand.moveMarked(0, 4);
        Check.due("15 a whole turn", hand.wheel.widest(0), 0);
        Check.due("15 the other", hand.wheel.widest(1), NONE);
    }

    /** "The first TOOTH with the greatest sum". */
    private static void widestFirstOfTheSame() {
        for (int turn : TURNS) {
            for (int first = 0; first < turn - 1; first += 1 + turn / 8) {
                Hand hand = withTurn(0, turn);
                hand.moveMarked(0, 1);
                hand.move(0, first);
                hand.rest(1);
                hand.move(0, 1);
                hand.move(0, turn - 2 - first);
                hand.rest(1);
                hand.moveMarked(0, 1);
                Check.due("15 " + first + " and the last of " + turn, hand.wheel.widest(0), first);
                Check.due("15 the last is as wide", hand.wheel.tooth(0, turn - 1), 2);
            }
        }
    }

    private static void widestFirstAndLastTooth() {
        for (int turn : TURNS) {
            Hand hand = withTurn(1, turn);
            hand.moveMarked(1, 1);
            hand.moveMarked(1, turn);
            Check.due("15 all the same", hand.wheel.widest(1), 0);
            hand.move(1, turn - 1);
            hand.rest(1);
            hand.moveMarked(1, 1);
            Check.due("15 the last of " + turn, hand.wheel.widest(1), turn - 1);
            hand.rest(1);
            hand.moveMarked(1, turn);
            Check.due("15 the first again", hand.wheel.widest(1), 0);
        }
    }

    /** "(and is so at first". */
    private static void apartAtFirst() {
        PulseWheel x = new PulseWheel();
        Check.due("16 new", x.apart(), NONE);
        x.tick(1, 4, 4);
        Check.due("16 both at their origins", x.apart(), NONE);
    }

    /** "and while one has no ORIGIN)". */
    private static void apartWithoutAnOrigin() {
        for (int reader = 0; reader < 2; reader++) {
            Hand hand = new Hand();
            hand.move(reader, 50);
            hand.move(1 - reader, -50);
            Check.due("16 none has one", hand.wheel.apart(), NONE);
            hand.zero(reader);
            hand.move(reader, 50);
            Check.due("16 one has one", hand.wheel.apart(), NONE);
            hand.fault(1 - reader);
            hand.zero(1 - reader);
            Check.due("16 the other is doubtful", hand.wheel.apart(), NONE);
        }
    }

    /** "differ by TURN of 0 and TURN of 1 together at most": just so much and one more, either one ahead. */
    private static void apartByMoreThanBothTurns() {
        for (int[] turns : new int[][] {{4, 4}, {4, 5}, {5, 4}, {4, 64}, {64, 4}, {16, 16}, {63, 64}, {64, 64}, {7, 9}}) {
            for (int first = -4; first <= 4; first++) {
                for (int second = -4; second <= 4; second++) {
                    apartBy(turns[0], turns[1], first, second);
                }
            }
        }
    }

    private static void apartBy(int firstTurn, int secondTurn, int first, int second) {
        Hand hand = new Hand();
        hand.turn(0, firstTurn);
        hand.turn(1, secondTurn);
        hand.move(0, 3);
        hand.move(1, -2);
        hand.zeroOfBoth();
        hand.move(0, first);
        hand.move(1, second);
        boolean agree = Math.abs(first * secondTurn - second * firstTurn) <= firstTurn + secondTurn;
        String when = "16 turns " + firstTurn + " and " + secondTurn + ", moved " + first + " and " + second;
        Check.due(when, hand.wheel.apart() == NONE, agree);
    }

    /** "The first TICK of those, one behind the other up to now". */
    private static void apartFromItsFirstTick() {
        for (int reader = 0; reader < 2; reader++) {
            Hand hand = new Hand();
            hand.zeroOfBoth();
            hand.move(reader, 2);
            Check.due("16 32 of 32", hand.wheel.apart(), NONE);
            hand.rest(6);
            hand.move(reader, 1);
            Check.due("16 48 of 32", hand.wheel.apart(), 10);
            hand.rest(2000);
            Check.due("16 the first tick still", hand.wheel.apart(), 10);
            hand.move(reader, 5);
            Check.due("16 farther, the first tick still", hand.wheel.apart(), 10);
            hand.move(reader, -6);
            Check.due("16 32 of 32 again", hand.wheel.apart(), NONE);
        }
    }

    /** "one behind the other": those of before a tick at whose end both agreed are not among them. */
    private static void apartAgain() {
        Hand hand = new Hand();
        hand.zeroOfBoth();
        hand.move(0, -3);
        Check.due("16 apart", hand.wheel.apart(), 4);
        hand.move(0, 1);
        Check.due("16 they agree for a tick", hand.wheel.apart(), NONE);
        hand.move(0, -1);
        Check.due("16 apart again", hand.wheel.apart(), 6);
        hand.move(1, 1);
        Check.due("16 farther", hand.wheel.apart(), 6);
    }

    /** By what a zero did one reader may go from ahead of the other to behind it, with no tick between that agrees. */
    private static void apartFromSideToSide() {
        Hand hand = new Hand();
        hand.zeroOfBoth();
        hand.move(1, 19);
        hand.move(0, 22);
        Check.due("16 three ahead", hand.wheel.apart(), 42);
        hand.fault(0);
        hand.fault(0);
        hand.fault(0);
        hand.zero(0);
        Check.due("16 mended", hand.wheel.of(0, 0), 16);
        Check.due("16 three behind", hand.wheel.apart(), 42);
    }

    private static void apartUpToTheLastTick() {
        Hand hand = new Hand();
        hand.zeroOfBoth();
        hand.move(0, 3);
        hand.rest(1000000 - 4);
        Check.due("16 a million", hand.wheel.about(0), 1000000);
        Check.due("16 since tick 4", hand.wheel.apart(), 4);
        hand.wheel.tick(1, 0, 0);
        Check.due("16 a refused tick asks nothing", hand.wheel.apart(), 4);
    }

    /** "It is asked at the end of each TICK": behind the zero of that tick, which may give the second origin. */
    private static void apartInTheTickOfAnOrigin() {
        Hand hand = new Hand();
        hand.zero(0);
        hand.move(0, 3);
        Check.due("16 one has none", hand.wheel.apart(), NONE);
        hand.zero(1);
        Check.due("16 both have one", hand.wheel.apart(), 5);
        Hand mended = new Hand();
        mended.zeroOfBoth();
        mended.move(0, 3);
        mended.move(0, 11);
        mended.move(1, 14);
        Check.due("16 both at 14", mended.wheel.apart(), NONE);
        mended.faultMarked(0);
        Check.due("16 mended to 16, 32 of 32", mended.wheel.apart(), NONE);
        mended.move(1, -1);
        Check.due("16 48 of 32", mended.wheel.apart(), mended.wheel.about(0));
    }

    private static void apartOfFarPlaces() {
        Hand hand = new Hand();
        hand.turn(0, 64);
        hand.turn(1, 64);
        hand.zeroOfBoth();
        hand.move(0, 2000);
        hand.move(0, 2000);
        hand.move(1, -2000);
        Check.due("16 384000 of 128", hand.wheel.apart(), 4);
        hand.move(1, 2000);
        hand.move(1, 2000);
        Check.due("16 2000 counts of 64", hand.wheel.apart(), 4);
    }
}
