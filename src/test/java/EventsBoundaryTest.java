/** The edges of the events kept and of what is worked out from them: promises 9, 10, 11 and 12, a test for each. */
public final class EventsBoundaryTest {
    private static final int NONE = PulseWheel.NONE;
    private static final int NO_VALUE = -2000000;
    private static final int[] NO_READERS = {-1, 2, Integer.MIN_VALUE, Integer.MAX_VALUE};

    private EventsBoundaryTest() {
    }

    public static void main(String[] args) {
        eventNoReader();
        eventBelowTheLatest();
        eventNoneYet();
        eventNoSuchWhat();
        eventsKeptUpToThreeHundred();
        eventSortsBehindAWrap();
        eventOfAFault();
        eventAheadOfWhatAZeroDid();
        rowNoReader();
        rowOfNoEvents();
        rowOfAFault();
        rowBehindAFault();
        rowBehindTheOtherSort();
        rowOfThoseKept();
        rowIsNotBrokenByRestOrZero();
        periodNoReader();
        periodOfTooFew();
        periodOfTooMany();
        periodOfEachNumber();
        periodOfMoreThanThere();
        periodNoSuchPart();
        periodOfTwoSorts();
        periodWithAFault();
        periodLeastIsMostByTheEvents();
        periodLeastIsMostByNow();
        periodInLowestTerms();
        periodBehindAWrap();
        periodOfTheLongestWait();
        movedNoReader();
        movedByTooFew();
        movedByTooMany();
        movedNotSoManySince();
        movedNotSoManySinceAnew();
        movedBehindAWrap();
        movedOverOneLongCall();
        movedByWhatAZeroDid();
        Check.end();
    }

    private static void duePeriod(String when, PulseWheel x, int reader, int m, int... wants) {
        for (int part = 0; part < wants.length; part++) {
            Check.due(when + ": period(" + reader + ", " + m + ", " + part + ")", x.period(reader, m, part), wants[part]);
        }
    }

    private static void dueNoPeriod(String when, PulseWheel x, int reader, int m) {
        duePeriod(when, x, reader, m, NONE, NONE, NONE, NONE);
    }

    private static void dueNoEvent(String when, PulseWheel x, int reader, int k) {
        for (int what = 0; what < 3; what++) {
            Check.due(when + ": event(" + reader + ", " + k + ", " + what + ")", x.event(reader, k, what), NO_VALUE);
        }
    }

    /** Forward counts of a reader in these ticks, and rest up to a tick behind them. */
    private static Hand countsAt(int reader, int until, int... ticks) {
        Hand hand = new Hand();
        int now = 0;
        for (int tick : ticks) {
            hand.rest(tick - 1 - now);
            hand.move(reader, 1);
            now = tick;
        }
        hand.rest(until - now);
        Check.due("ticks", hand.wheel.about(0), until);
        return hand;
    }

    /** "-2000000 if there is none such kept.": no such reader. */
    private static void eventNoReader() {
        Hand hand = countsAt(0, 3, 1, 2, 3);
        for (int no : NO_READERS) {
            dueNoEvent("9 no reader", hand.wheel, no, 0);
        }
    }

    /** "the k-th latest EVENT (0 the latest)": none is later. */
    private static void eventBelowTheLatest() {
        Hand hand = countsAt(0, 3, 1, 2, 3);
        for (int k : new int[] {-1, -2, -300, Integer.MIN_VALUE}) {
            dueNoEvent("9 later than the latest", hand.wheel, 0, k);
        }
        Check.due("9 the latest", hand.wheel.event(0, 0, 1), 3);
    }

    private static void eventNoneYet() {
        PulseWheel x = new PulseWheel();
        x.tick(2000, 4, 4);
        dueNoEvent("9 none yet", x, 0, 0);
        dueNoEvent("9 none yet", x, 1, 0);
        dueNoEvent("9 none yet", x, 0, 299);
    }

    private static void eventNoSuchWhat() {
        Hand hand = countsAt(1, 3, 1, 2, 3);
        for (int what : new int[] {-1, 3, 4, Integer.MIN_VALUE, Integer.MAX_VALUE}) {
            Check.due("9 what " + what, hand.wheel.event(1, 0, what), NO_VALUE);
            Check.due("9 what " + what + " of the oldest", hand.wheel.event(1, 2, what), NO_VALUE);
        }
    }

    /** "The last 300 EVENTS of a READER are kept.": fewer, just so many, more, and more than twice as many. */
    private static void eventsKeptUpToThreeHundred() {
        for (int counts : new int[] {1, 2, 299, 300, 301, 599, 600, 601, 900}) {
            for (int reader = 0; reader < 2; reader++) {
                Hand hand = new Hand();
                hand.rest(7);
                hand.move(reader, counts);
                int kept = Math.min(counts, 300);
                for (int k = 0; k < kept; k++) {
                    Check.due("9 place of " + k + " of " + counts, hand.wheel.event(reader, k, 2), counts - k);
                }
                Check.due("9 tick of the latest", hand.wheel.event(reader, 0, 1), 7 + counts);
                Check.due("9 tick of the oldest", hand.wheel.event(reader, kept - 1, 1), 7 + counts - (kept - 1));
                Check.due("9 sort of the oldest", hand.wheel.event(reader, kept - 1, 0), 1);
                dueNoEvent("9 none older", hand.wheel, reader, kept);
                dueNoEvent("9 none older", hand.wheel, reader, 300);
                dueNoEvent("9 none older", hand.wheel, reader, 301);
                dueNoEvent("9 none that old", hand.wheel, reader, Integer.MAX_VALUE);
                dueNoEvent("9 none of the other", hand.wheel, 1 - reader, 0);
                Check.due("7 events in all", hand.wheel.of(reader, 7), counts);
            }
        }
    }

    private static void eventSortsBehindAWrap() {
        Hand hand = new Hand();
        hand.move(0, 200);
        hand.move(0, -150);
        hand.fault(0);
        hand.move(0, 100);
        for (int k = 0; k < 300; k++) {
            int want = k < 100 ? 1 : k == 100 ? 0 : k <= 250 ? -1 : 1;
            Check.due("9 sort of " + k, hand.wheel.event(0, k, 0), want);
        }
        Check.due("9 place of the oldest", hand.wheel.event(0, 299, 2), 152);
        Check.due("9 tick of the oldest", hand.wheel.event(0, 299, 1), 152);
        dueNoEvent("9 none older", hand.wheel, 0, 300);
    }

    /** "0 FAULT", and PLACE is what it was. */
    private static void eventOfAFault() {
        Hand hand = new Hand();
        hand.move(1, -3);
        hand.fault(1);
        Check.due("9 sort", hand.wheel.event(1, 0, 0), 0);
        Check.due("9 tick", hand.wheel.event(1, 0, 1), 4);
        Check.due("9 place", hand.wheel.event(1, 0, 2), -3);
        hand.move(1, -1);
        Check.due("9 back behind it", hand.wheel.event(1, 0, 0), -1);
        Check.due("9 its place", hand.wheel.event(1, 0, 2), -4);
    }

    /** "PLACE behind it (ahead of what a ZERO did)". */
    private static void eventAheadOfWhatAZeroDid() {
        Hand hand = new Hand();
        hand.zero(0);
        hand.move(0, 15);
        hand.fault(0);
        hand.moveMarked(0, -1);
        Check.due("9 mended", hand.wheel.of(0, 0), 16);
        Check.due("9 place of the event in that tick", hand.wheel.event(0, 0, 2), 14);
        Check.due("9 its tick", hand.wheel.event(0, 0, 1), hand.wheel.about(0));
        hand.move(0, 1);
        Check.due("9 the next one is behind it", hand.wheel.event(0, 0, 2), 17);
    }

    /** Of no such reader there is no event, so the row is 0 as for one without any. */
    private static void rowNoReader() {
        Hand hand = countsAt(0, 3, 1, 2, 3);
        for (int no : NO_READERS) {
            Check.due("10 row(" + no + ")", hand.wheel.row(no), 0);
        }
    }

    /** "0 if .. there is none." */
    private static void rowOfNoEvents() {
        PulseWheel x = new PulseWheel();
        Check.due("10 new", x.row(0), 0);
        x.tick(9, 4, 0);
        Check.due("10 a zero is none", x.row(0), 0);
        Hand hand = countsAt(1, 3, 1, 2, 3);
        Check.due("10 three", hand.wheel.row(1), 3);
        Check.due("10 none of the other", hand.wheel.row(0), 0);
        hand.wheel.hold(1, 1);
        Check.due("10 anew", hand.wheel.row(1), 0);
    }

    /** "0 if the latest is a FAULT". */
    private static void rowOfAFault() {
        Hand hand = new Hand();
        hand.fault(0);
        Check.due("10 a fault alone", hand.wheel.row(0), 0);
        hand.fault(0);
        Check.due("10 two faults", hand.wheel.row(0), 0);
        hand.move(0, 5);
        hand.fault(0);
        Check.due("10 behind five forward", hand.wheel.row(0), 0);
        hand.move(0, -5);
        hand.fault(0);
        Check.due("10 behind five back", hand.wheel.row(0), 0);
    }

    private static void rowBehindAFault() {
        for (int way = -1; way <= 1; way += 2) {
            Hand hand = new Hand();
            hand.move(0, 4 * way);
            hand.fault(0);
            hand.move(0, way);
            Check.due("10 one behind a fault", hand.wheel.row(0), 1);
            hand.move(0, way);
            Check.due("10 two behind a fault", hand.wheel.row(0), 2);
        }
    }

    /** "of its sort (FORWARD or BACK) one behind the other". */
    private static void rowBehindTheOtherSort() {
        for (int way = -1; way <= 1; way += 2) {
            Hand hand = new Hand();
            hand.move(1, way);
            Check.due("10 one", hand.wheel.row(1), 1);
            hand.move(1, 3 * way);
            Check.due("10 four", hand.wheel.row(1), 4);
            hand.move(1, -way);
            Check.due("10 the first of the other sort", hand.wheel.row(1), 1);
            hand.move(1, -way);
            Check.due("10 the second", hand.wheel.row(1), 2);
            hand.move(1, way);
            Check.due("10 the first sort again", hand.wheel.row(1), 1);
        }
    }

    /** "of those kept": 300 at most. */
    private static void rowOfThoseKept() {
        for (int way = -1; way <= 1; way += 2) {
            Hand hand = new Hand();
            hand.move(0, -way);
            hand.move(0, 298 * way);
            Check.due("10 one less", hand.wheel.row(0), 298);
            hand.move(0, way);
            Check.due("10 299 behind another", hand.wheel.row(0), 299);
            hand.move(0, way);
            Check.due("10 300", hand.wheel.row(0), 300);
            hand.move(0, way);
            Check.due("10 301 are 300", hand.wheel.row(0), 300);
            hand.move(0, 600 * way);
            Check.due("10 901 are 300", hand.wheel.row(0), 300);
            hand.move(0, -way);
            Check.due("10 one of the other sort", hand.wheel.row(0), 1);
        }
    }

    private static void rowIsNotBrokenByRestOrZero() {
        Hand hand = new Hand();
        hand.moveMarked(0, 3);
        hand.rest(2000);
        hand.zero(0);
        hand.move(0, 2);
        Check.due("10 five", hand.wheel.row(0), 5);
    }

    /** "NONE if it can't be asked": no such reader. */
    private static void periodNoReader() {
        Hand hand = countsAt(0, 3, 1, 2, 3);
        for (int no : NO_READERS) {
            dueNoPeriod("11 no reader", hand.wheel, no, 2);
        }
    }

    /** "The last m (2 .. 30) EVENTS": too few. */
    private static void periodOfTooFew() {
        Hand hand = new Hand();
        hand.move(0, 40);
        for (int m : new int[] {1, 0, -1, -2, Integer.MIN_VALUE}) {
            dueNoPeriod("11 too few", hand.wheel, 0, m);
        }
    }

    /** "The last m (2 .. 30) EVENTS": too many. */
    private static void periodOfTooMany() {
        Hand hand = new Hand();
        hand.move(0, 400);
        for (int m : new int[] {31, 32, 300, 400, Integer.MAX_VALUE}) {
            dueNoPeriod("11 too many", hand.wheel, 0, m);
        }
    }

    /** A count in each tick: above (m - 1) / m by the tick now, and below m / (m - 1) by the first and the last. */
    private static void periodOfEachNumber() {
        for (int reader = 0; reader < 2; reader++) {
            for (int way = -1; way <= 1; way += 2) {
                Hand hand = new Hand();
                hand.move(reader, 40 * way);
                for (int m = 2; m <= 30; m++) {
                    duePeriod("11 in each tick", hand.wheel, reader, m, m - 1, m, m, m - 1);
                }
            }
        }
    }

    /** The reader must have had m events. */
    private static void periodOfMoreThanThere() {
        for (int there = 0; there <= 30; there++) {
            Hand hand = new Hand();
            hand.move(0, there);
            dueNoPeriod("11 of " + there, hand.wheel, 0, there + 1);
            if (there >= 2) {
                duePeriod("11 of " + there, hand.wheel, 0, there, there - 1, there, there, there - 1);
            }
        }
    }

    private static void periodNoSuchPart() {
        Hand hand = countsAt(1, 3, 1, 2, 3);
        for (int part : new int[] {-1, -4, 4, 5, Integer.MIN_VALUE, Integer.MAX_VALUE}) {
            Check.due("11 part " + part, hand.wheel.period(1, 2, part), NONE);
        }
    }

    /** "if all are FORWARD, or all BACK". */
    private static void periodOfTwoSorts() {
        for (int way = -1; way <= 1; way += 2) {
            Hand hand = new Hand();
            hand.move(0, -5 * way);
            hand.move(0, way);
            dueNoPeriod("11 one of each sort", hand.wheel, 0, 2);
            hand.move(0, 4 * way);
            duePeriod("11 all of one sort", hand.wheel, 0, 5, 4, 5, 5, 4);
            dueNoPeriod("11 the oldest is of the other", hand.wheel, 0, 6);
        }
    }

    private static void periodWithAFault() {
        Hand hand = new Hand();
        hand.move(0, 5);
        hand.fault(0);
        dueNoPeriod("11 the latest is a fault", hand.wheel, 0, 2);
        hand.move(0, 3);
        duePeriod("11 all behind the fault", hand.wheel, 0, 3, 2, 3, 3, 2);
        dueNoPeriod("11 the oldest is a fault", hand.wheel, 0, 4);
        Hand faults = new Hand();
        faults.fault(0);
        faults.fault(0);
        faults.fault(0);
        dueNoPeriod("11 all are faults", faults.wheel, 0, 2);
    }

    /** "There is no such motion if LEAST is not below MOST.": by the third event. */
    private static void periodLeastIsMostByTheEvents() {
        duePeriod("11 a tick sooner", countsAt(0, 4, 1, 2, 4).wheel, 0, 3, 1, 1, 2, 1);
        dueNoPeriod("11 least is most", countsAt(0, 5, 1, 2, 5).wheel, 0, 3);
        dueNoPeriod("11 least is above most", countsAt(0, 6, 1, 2, 6).wheel, 0, 3);
        duePeriod("11 the latest two", countsAt(0, 6, 1, 2, 6).wheel, 0, 2, 3, 1, 5, 1);
    }

    /** "and the next count be behind the TICK now". */
    private static void periodLeastIsMostByNow() {
        duePeriod("11 in the tick of the last", countsAt(1, 11, 1, 11).wheel, 1, 2, 9, 1, 11, 1);
        duePeriod("11 not yet longer", countsAt(1, 20, 1, 11).wheel, 1, 2, 19, 2, 11, 1);
        duePeriod("11 a tick sooner", countsAt(1, 21, 1, 11).wheel, 1, 2, 10, 1, 11, 1);
        dueNoPeriod("11 least is most", countsAt(1, 22, 1, 11).wheel, 1, 2);
        dueNoPeriod("11 least is above most", countsAt(1, 23, 1, 11).wheel, 1, 2);
        dueNoPeriod("11 long since", countsAt(1, 2000, 1, 11).wheel, 1, 2);
    }

    /** "in lowest terms": 10 / 4 of most, 10 / 4 of least by the events, and 14 / 4 of least by the tick now. */
    private static void periodInLowestTerms() {
        duePeriod("11 most", countsAt(0, 10, 1, 3, 6, 8, 10).wheel, 0, 5, 2, 1, 5, 2);
        duePeriod("11 least", countsAt(0, 12, 1, 4, 6, 9, 12).wheel, 0, 5, 5, 2, 3, 1);
        duePeriod("11 least by now", countsAt(0, 15, 1, 5, 8, 12).wheel, 0, 4, 7, 2, 4, 1);
    }

    private static void periodBehindAWrap() {
        for (int counts : new int[] {299, 300, 301, 310, 329, 330}) {
            Hand hand = new Hand();
            hand.move(0, -1);
            hand.move(0, counts);
            duePeriod("11 behind " + counts, hand.wheel, 0, 30, 29, 30, 30, 29);
            duePeriod("11 behind " + counts, hand.wheel, 0, 2, 1, 2, 2, 1);
        }
    }

    /** From the first tick to the millionth. */
    private static void periodOfTheLongestWait() {
        PulseWheel x = new PulseWheel();
        x.tick(1, 1, 0);
        for (int i = 0; i < 499; i++) {
            x.tick(2000, 1, 0);
        }
        x.tick(1998, 1, 0);
        x.tick(1, 3, 0);
        Check.due("11 a million", x.about(0), 1000000);
        duePeriod("11 the longest wait", x, 0, 2, 999998, 1, 1000000, 1);
    }

    /** "-2000000 for another n": of no such reader, too. */
    private static void movedNoReader() {
        Hand hand = countsAt(0, 3, 1, 2, 3);
        for (int no : NO_READERS) {
            Check.due("12 moved(" + no + ", 1)", hand.wheel.moved(no, 1), NO_VALUE);
        }
    }

    /** "n TICKS ago (1 .. 500": too few. */
    private static void movedByTooFew() {
        Hand hand = new Hand();
        hand.move(0, 600);
        for (int n : new int[] {0, -1, -500, Integer.MIN_VALUE}) {
            Check.due("12 moved(0, " + n + ")", hand.wheel.moved(0, n), NO_VALUE);
        }
        Check.due("12 one", hand.wheel.moved(0, 1), 1);
    }

    /** "n TICKS ago (1 .. 500": too many. */
    private static void movedByTooMany() {
        Hand hand = new Hand();
        hand.move(0, 600);
        for (int n : new int[] {501, 502, 600, 1002, Integer.MAX_VALUE}) {
            Check.due("12 moved(0, " + n + ")", hand.wheel.moved(0, n), NO_VALUE);
        }
        Check.due("12 five hundred", hand.wheel.moved(0, 500), 500);
    }

    /** "0 at the beginning of all", and "-2000000 .. if there were not so many since." */
    private static void movedNotSoManySince() {
        Check.due("12 no tick", new PulseWheel().moved(0, 1), NO_VALUE);
        for (int ticks : new int[] {1, 2, 499, 500}) {
            for (int reader = 0; reader < 2; reader++) {
                Hand hand = new Hand();
                hand.move(reader, -ticks);
                Check.due("12 since the beginning", hand.wheel.moved(reader, ticks), -ticks);
                Check.due("12 before it", hand.wheel.moved(reader, ticks + 1), NO_VALUE);
                Check.due("12 the other rests", hand.wheel.moved(1 - reader, ticks), 0);
                Check.due("12 and began with it", hand.wheel.moved(1 - reader, ticks + 1), NO_VALUE);
            }
        }
    }

    /** "0 at the beginning .. anew", and "-2000000 .. if there were not so many since." */
    private static void movedNotSoManySinceAnew() {
        for (boolean byHold : new boolean[] {true, false}) {
            for (int ticks : new int[] {1, 2, 499, 500}) {
                Hand hand = new Hand();
                hand.move(0, 777);
                if (byHold) {
                    hand.hold(0, 1);
                } else {
                    hand.turn(0, 16);
                }
                Check.due("12 no tick since", hand.wheel.moved(0, 1), NO_VALUE);
                hand.move(0, ticks);
                Check.due("12 since anew", hand.wheel.moved(0, ticks), ticks);
                Check.due("12 before it", hand.wheel.moved(0, ticks + 1), NO_VALUE);
                Check.due("12 the other began before", hand.wheel.moved(1, 500), 0);
            }
        }
    }

    /** A way that does not repeat: each place of the last 500 ticks is its own, however many ticks there were. */
    private static void movedBehindAWrap() {
        for (int ticks : new int[] {500, 501, 502, 503, 1000, 1001, 1002, 1003, 1500, 1999}) {
            int[] places = new int[ticks + 1];
            int[] bytes = new int[ticks];
            for (int i = 1; i <= ticks; i++) {
                int sort = i % 7 == 0 ? 0 : i % 11 < 3 ? -1 : 1;
                places[i] = places[i - 1] + sort;
                bytes[i - 1] = new int[] {0, 1, 3, 2}[Math.floorMod(places[i], 4)];
            }
            Hand hand = new Hand();
            hand.run(bytes);
            for (int n = 1; n <= 500; n += n < 5 || n >= 490 ? 1 : 5) {
                Check.due("12 moved(0, " + n + ") at " + ticks, hand.wheel.moved(0, n), places[ticks] - places[ticks - n]);
            }
        }
    }

    private static void movedOverOneLongCall() {
        PulseWheel x = new PulseWheel();
        x.tick(1, 0, 0);
        x.tick(499, 1, 0);
        Check.due("12 all but the first tick", x.moved(0, 499), 1);
        Check.due("12 since the beginning", x.moved(0, 500), 1);
        x.tick(1, 1, 0);
        Check.due("12 the count is 500 ticks old", x.moved(0, 500), 1);
        x.tick(1, 1, 0);
        Check.due("12 it is behind", x.moved(0, 500), 0);
        x.tick(2000, 3, 0);
        Check.due("12 far behind", x.moved(0, 500), 0);
    }

    /** PLACE of a tick is what its zero left. */
    private static void movedByWhatAZeroDid() {
        Hand hand = new Hand();
        hand.turn(0, 16);
        hand.zero(0);
        hand.move(0, 15);
        hand.faultMarked(0);
        Check.due("12 place", hand.wheel.of(0, 0), 16);
        Check.due("12 by the zero", hand.wheel.moved(0, 1), 1);
        hand.rest(1);
        Check.due("12 at rest behind it", hand.wheel.moved(0, 1), 0);
        Check.due("12 the zero is two ticks ago", hand.wheel.moved(0, 2), 1);
        Check.due("12 all of it", hand.wheel.moved(0, 17), 16);
    }
}
