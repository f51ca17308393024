/** For each promise of the document: ordinary inputs, the edges it names, and wrong inputs. */
public final class PromiseTest {
    private static final int NONE = PulseWheel.NONE;
    private static final int NO_VALUE = -2000000;
    /** The raw bits of lines A and B by phase. */
    private static final int[] BITS = {0, 1, 3, 2};
    private static final int[] NO_READERS = {-1, 2, 3, Integer.MIN_VALUE, Integer.MAX_VALUE};

    private PromiseTest() {
    }

    public static void main(String[] args) {
        promise01NewObject();
        promise02Hold();
        promise02HoldOfLines();
        promise03Turn();
        promise04Tick();
        promise04Phases();
        promise05Feed();
        promise06Play();
        promise07Of();
        promise08Origin();
        promise08ZeroMends();
        promise09Event();
        promise10Row();
        promise11Period();
        promise11NoMotion();
        promise12Moved();
        promise13Tooth();
        promise14Wholes();
        promise15Widest();
        promise16Apart();
        promise16ApartAnew();
        promise16ApartUpToTheNextTick();
        promise17Keep();
        promise18Back();
        promise19About();
        Check.end();
    }

    /** Counts of reader 0 from one phase on, each a tick long; the last one has the zero mark if asked for. */
    private static int spin(PulseWheel x, int phase, int counts, boolean marked) {
        int step = counts < 0 ? -1 : 1;
        int at = phase;
        for (int i = 0; i < Math.abs(counts); i++) {
            at = Math.floorMod(at + step, 4);
            boolean last = i == Math.abs(counts) - 1;
            x.tick(1, BITS[at] | (marked && last ? 4 : 0), 0);
        }
        return at;
    }

    private static void dueOf(String when, PulseWheel x, int reader, int... wants) {
        for (int what = 0; what < wants.length; what++) {
            Check.due(when + ": of(" + reader + ", " + what + ")", x.of(reader, what), wants[what]);
        }
    }

    private static void duePeriod(String when, PulseWheel x, int m, int... wants) {
        for (int part = 0; part < wants.length; part++) {
            Check.due(when + ": period(0, " + m + ", " + part + ")", x.period(0, m, part), wants[part]);
        }
    }

    private static void promise01NewObject() {
        PulseWheel x = new PulseWheel();
        for (int reader = 0; reader < 2; reader++) {
            dueOf("1 new", x, reader, 0, 0, 0, 0, 0, 1, 16, 0, 0, 0, 0, 0);
            Check.due("1 origin", x.origin(reader), NO_VALUE);
            Check.due("1 event", x.event(reader, 0, 0), NO_VALUE);
            Check.due("1 row", x.row(reader), 0);
            Check.due("1 moved", x.moved(reader, 1), NO_VALUE);
            Check.due("1 wholes", x.wholes(reader), 0);
            Check.due("1 widest", x.widest(reader), NONE);
            Check.due("1 tooth", x.tooth(reader, 15), 0);
            Check.due("1 period", x.period(reader, 2, 0), NONE);
        }
        Check.due("1 apart", x.apart(), NONE);
        Check.due("1 ticks", x.about(0), 0);
        Check.due("1 tape", x.about(1), 0);
        Check.due("1 images", x.about(2), 0);
        Check.due("1 NONE", NONE, -1);
    }

    private static void promise02Hold() {
        PulseWheel x = new PulseWheel();
        for (int no : NO_READERS) {
            Check.due("2 hold of no reader", x.hold(no, 1), false);
        }
        for (int no : new int[] {0, -1, 17, Integer.MIN_VALUE, Integer.MAX_VALUE}) {
            Check.due("2 hold of " + no, x.hold(0, no), false);
        }
        Check.due("2 hold 16", x.hold(1, 16), true);
        Check.due("2 of 1", x.of(1, 5), 16);
        Check.due("2 of 0", x.of(0, 5), 1);
        Check.due("2 turn", x.turn(0, 20), true);
        x.tick(3, 5, 0);
        Check.due("2 refused", x.hold(0, 17), false);
        dueOf("2 refused does nothing", x, 0, 1, 1, 1, 1, 5, 1, 20, 1, 0, 0, 1, 1);
        Check.due("2 the same hold", x.hold(0, 1), true);
        dueOf("2 anew", x, 0, 0, 0, 0, 0, 0, 1, 20, 0, 0, 0, 0, 0);
        Check.due("2 ticks go on", x.about(0), 3);
        Check.due("2 moved anew", x.moved(0, 1), NO_VALUE);
        Check.due("2 event anew", x.event(0, 0, 0), NO_VALUE);
        x.tick(1, 1, 0);
        Check.due("2 tick of event", x.event(0, 0, 1), 4);
        Check.due("2 other reader goes on", x.moved(1, 4), 0);
    }

    private static void promise02HoldOfLines() {
        PulseWheel x = new PulseWheel();
        x.hold(0, 16);
        x.tick(15, 7, 0);
        Check.due("2 fifteen are too few", x.of(0, 4), 0);
        x.tick(1, 6, 0);
        Check.due("2 lines held apart", x.of(0, 4), 6);
        Check.due("2 back by one", x.of(0, 0), -1);
        x.tick(15, 7, 0);
        Check.due("2 A begins again", x.of(0, 4), 6);
        x.tick(1, 7, 0);
        Check.due("2 A at last", x.of(0, 4), 7);
        Check.due("2 tick of A", x.event(0, 0, 1), 32);
        x.hold(0, 3);
        x.tick(2, 1, 0);
        x.hold(0, 3);
        x.tick(2, 1, 0);
        Check.due("2 what was before anew doesn't count", x.of(0, 4), 0);
        x.tick(1, 1, 0);
        Check.due("2 three since anew", x.of(0, 4), 1);
    }

    private static void promise03Turn() {
        PulseWheel x = new PulseWheel();
        for (int no : NO_READERS) {
            Check.due("3 turn of no reader", x.turn(no, 16), false);
        }
        for (int no : new int[] {3, 65, 0, -4, Integer.MIN_VALUE, Integer.MAX_VALUE}) {
            Check.due("3 turn of " + no, x.turn(0, no), false);
        }
        Check.due("3 turn 4", x.turn(0, 4), true);
        Check.due("3 turn 64", x.turn(1, 64), true);
        Check.due("3 of 0", x.of(0, 6), 4);
        Check.due("3 of 1", x.of(1, 6), 64);
        x.hold(0, 2);
        x.tick(2, 5, 1);
        Check.due("3 refused", x.turn(0, 65), false);
        dueOf("3 refused does nothing", x, 0, 1, 1, 1, 1, 5, 2, 4, 1, 0, 0, 1, 1);
        Check.due("3 the same turn", x.turn(0, 4), true);
        dueOf("3 anew", x, 0, 0, 0, 0, 0, 0, 2, 4, 0, 0, 0, 0, 0);
        dueOf("3 other reader", x, 1, 1, 1, 1, 1, 1, 1, 64, 1, 0, 0, 0, 0);
        Check.due("3 ticks go on", x.about(0), 2);
    }

    private static void promise04Tick() {
        PulseWheel x = new PulseWheel();
        int[][] wrongs = {{-1, 0, 0}, {2001, 0, 0}, {1, 8, 0}, {1, 0, 8}, {1, -1, 0}, {1, 0, -1}, {0, 8, 0}, {0, 0, -1},
            {Integer.MAX_VALUE, 0, 0}, {Integer.MIN_VALUE, 0, 0}, {1, Integer.MAX_VALUE, Integer.MIN_VALUE}};
        for (int[] w : wrongs) {
            Check.due("4 wrong tick " + w[0], x.tick(w[0], w[1], w[2]), NONE);
        }
        Check.due("4 nothing done", x.about(0), 0);
        Check.due("4 none", x.tick(0, 7, 7), 0);
        Check.due("4 nothing done by none", x.of(0, 4), 0);
        Check.due("4 all bits", x.tick(1, 7, 6), 1);
        Check.due("4 bits of 0", x.of(0, 4), 7);
        Check.due("4 bits of 1", x.of(1, 4), 6);
        promise04TickAtTheEnd();
    }

    private static void promise04TickAtTheEnd() {
        PulseWheel x = new PulseWheel();
        x.tick(1, 7, 6);
        for (int i = 0; i < 499; i++) {
            x.tick(2000, 0, 0);
        }
        Check.due("4 one too many", x.tick(2000, 1, 0), NONE);
        Check.due("4 nothing done at the end", x.of(0, 4), 0);
        Check.due("4 the last ones", x.tick(1999, 1, 0), 1999);
        Check.due("4 a million", x.about(0), 1000000);
        Check.due("4 none behind them", x.tick(1, 0, 0), NONE);
        Check.due("4 none is fine", x.tick(0, 0, 0), 0);
        Check.due("4 moved at the end", x.moved(0, 500), 0);
    }

    private static void promise04Phases() {
        for (int from = 0; from < 4; from++) {
            for (int to = 0; to < 4; to++) {
                PulseWheel x = new PulseWheel();
                int at = spin(x, 0, from, false);
                x.tick(1, BITS[to], 0);
                int change = Math.floorMod(to - at, 4);
                int sort = change == 3 ? -1 : change == 1 ? 1 : 0;
                int wide = change == 2 ? 2 : 0;
                int events = from + (change == 0 ? 0 : 1);
                dueOf("4 phase " + from + " to " + to, x, 0, from + sort, from + sort - wide, from + sort + wide, to,
                    BITS[to], 1, 16, events, wide / 2);
            }
        }
    }

    private static void promise05Feed() {
        PulseWheel x = new PulseWheel();
        for (int i = 1; i <= 100; i++) {
            Check.due("5 feed " + i, x.feed(0, 0, 0, 0, i), 20 * i);
        }
        Check.due("5 full", x.feed(-1, -1, -1, -1, -1), NONE);
        Check.due("5 nothing came", x.about(1), 2000);
        Check.due("5 played up to the byte 64", x.play(2000), 64 * 20 - 1);
        Check.due("5 empty", x.about(1), 0);
        Check.due("5 feed again", x.feed(0, 0, 0, 0, 0), 20);
        PulseWheel z = new PulseWheel();
        z.feed(0x01030200, 0, 0, 0, 0x08);
        Check.due("5 all but the last", z.play(19), 19);
        Check.due("5 the highest first", z.of(0, 0), 4);
        Check.due("5 the lowest last", z.of(1, 7), 0);
        PulseWheel y = new PulseWheel();
        y.feed(0x01030200, 0x01030200, 0x01030200, 0x01030200, 0x01030200);
        y.feed(0x01030200, 0x01030200, 0x01030200, 0x01030200, 0x01030208);
        Check.due("5 two feeds", y.play(40), 40);
        Check.due("5 all in order", y.of(0, 0), 40);
        Check.due("5 the last of all", y.event(1, 0, 1), 40);
    }

    private static void promise06Play() {
        PulseWheel x = new PulseWheel();
        Check.due("6 none on the tape", x.play(1), NONE);
        Check.due("6 none of none", x.play(0), 0);
        x.feed(0x09120000, 0, 0, 0, 0);
        Check.due("6 below 0", x.play(-1), NONE);
        Check.due("6 lowest", x.play(Integer.MIN_VALUE), NONE);
        Check.due("6 too many", x.play(21), NONE);
        Check.due("6 nothing done", x.about(1), 20);
        Check.due("6 no ticks", x.about(0), 0);
        Check.due("6 two", x.play(2), 2);
        Check.due("6 empty then", x.about(1), 0);
        Check.due("6 clean of 0", x.of(0, 4), 2);
        Check.due("6 clean of 1", x.of(1, 4), 2);
        x.feed(0x3f800000, 0, 0, 0, 0);
        Check.due("6 ends ahead of 128", x.play(20), 1);
        Check.due("6 all lines of 0", x.of(0, 4), 7);
        Check.due("6 all lines of 1", x.of(1, 4), 7);
        x.feed(0x007f0000, 0, 0, 0, 0);
        Check.due("6 ends ahead of 64", x.play(20), 1);
        Check.due("6 the rest is gone", x.about(1), 0);
        x.feed(0x40000000, 0, 0, 0, 0);
        Check.due("6 ends at once", x.play(4), 0);
        x.feed(0, 0, 0, 0, 0);
        Check.due("6 none", x.play(0), 0);
        Check.due("6 none empties, too", x.about(1), 0);
        promise06PlayAtTheEnd();
    }

    private static void promise06PlayAtTheEnd() {
        PulseWheel x = new PulseWheel();
        for (int i = 0; i < 500; i++) {
            x.tick(i == 0 ? 1995 : 2000, 0, 0);
        }
        x.feed(0x01030200, 0x01030200, 0, 0, 0);
        Check.due("6 ends at a million", x.play(20), 5);
        Check.due("6 a million", x.about(0), 1000000);
        Check.due("6 place then", x.of(0, 0), 5);
        x.feed(0, 0, 0, 0, 0);
        Check.due("6 none behind a million", x.play(20), 0);
        Check.due("6 empty all the same", x.about(1), 0);
    }

    private static void promise07Of() {
        PulseWheel x = new PulseWheel();
        for (int no : NO_READERS) {
            Check.due("7 no reader", x.of(no, 0), NO_VALUE);
        }
        for (int no : new int[] {-1, 12, Integer.MIN_VALUE, Integer.MAX_VALUE}) {
            Check.due("7 no such what", x.of(1, no), NO_VALUE);
        }
        x.hold(1, 2);
        x.turn(1, 5);
        x.tick(2, 0, 5);
        x.tick(2, 0, 2);
        dueOf("7 fault", x, 1, 1, -1, 3, 3, 2, 2, 5, 2, 1, 0, 1, 1);
        x.tick(2, 0, 6);
        dueOf("7 mended", x, 1, 1, 1, 1, 3, 6, 2, 5, 2, 1, 0, 2, 1);
        x.tick(2, 0, 0);
        x.tick(2, 0, 4);
        dueOf("7 slip", x, 1, 2, 2, 2, 0, 4, 2, 5, 3, 1, 1, 3, 1);
    }

    private static void promise08Origin() {
        PulseWheel x = new PulseWheel();
        for (int no : NO_READERS) {
            Check.due("8 no reader", x.origin(no), NO_VALUE);
        }
        x.tick(1, 3, 0);
        x.tick(1, 7, 0);
        Check.due("8 doubtful gives none", x.origin(0), NO_VALUE);
        Check.due("8 but a zero", x.of(0, 10), 1);
        Check.due("8 none", x.of(0, 11), 0);
        x.turn(0, 4);
        spin(x, 0, -3, true);
        Check.due("8 place behind A and B of that tick", x.origin(0), -3);
        Check.due("8 other reader", x.origin(1), NO_VALUE);
        x.tick(1, 0, 0);
        x.tick(1, 4, 0);
        Check.due("8 stays", x.origin(0), -3);
        x.tick(5, 4, 0);
        Check.due("8 Z must become 1 anew", x.of(0, 10), 2);
    }

    private static void promise08ZeroMends() {
        PulseWheel x = new PulseWheel();
        x.turn(0, 4);
        x.tick(1, 4, 0);
        x.tick(1, 3, 0);
        x.tick(1, 7, 0);
        dueOf("8 just one", x, 0, 0, 0, 0, 2);
        x.tick(1, 2, 0);
        x.tick(1, 1, 0);
        dueOf("8 from -1 to 3", x, 0, 1, -1, 3, 1);
        x.tick(1, 3, 0);
        x.tick(1, 7, 0);
        dueOf("8 0 and 4 are two", x, 0, 2, 0, 4, 2);
        x.tick(1, 1, 0);
        x.tick(1, 5, 0);
        dueOf("8 just one, inside", x, 0, 0, 0, 0, 1);
        Check.due("8 no slip", x.of(0, 9), 0);
        PulseWheel y = new PulseWheel();
        y.turn(0, 6);
        y.tick(1, 4, 0);
        spin(y, 0, 4, false);
        y.tick(1, 3, 0);
        y.tick(1, 7, 0);
        dueOf("8 at its upper end", y, 0, 6, 6, 6, 2);
        spin(y, 2, 1, false);
        y.tick(1, 6, 0);
        Check.due("8 a slip", y.of(0, 9), 1);
        dueOf("8 a slip changes nothing", y, 0, 7, 7, 7, 3);
        spin(y, 3, -16, true);
        dueOf("8 far below", y, 0, -9, -9, -9, 3);
        Check.due("8 one more slip", y.of(0, 9), 2);
        spin(y, 3, 3, true);
        Check.due("8 in place at -6", y.of(0, 9), 2);
    }

    private static void promise09Event() {
        PulseWheel x = new PulseWheel();
        for (int no : NO_READERS) {
            Check.due("9 no reader", x.event(no, 0, 0), NO_VALUE);
        }
        x.tick(3, 0, 0);
        int phase = spin(x, 0, 301, false);
        int[][] wrongs = {{-1, 0}, {300, 0}, {301, 0}, {0, 3}, {0, -1}, {Integer.MAX_VALUE, 0}, {Integer.MIN_VALUE, 0}};
        for (int[] w : wrongs) {
            Check.due("9 event " + w[0] + " what " + w[1], x.event(0, w[0], w[1]), NO_VALUE);
        }
        Check.due("9 oldest kept", x.event(0, 299, 1), 5);
        Check.due("9 its place", x.event(0, 299, 2), 2);
        spin(x, phase, -1, false);
        Check.due("9 back", x.event(0, 0, 0), -1);
        Check.due("9 place", x.event(0, 0, 2), 300);
        Check.due("9 the one before", x.event(0, 1, 0), 1);
        Check.due("9 oldest now", x.event(0, 299, 1), 6);
        Check.due("9 other reader", x.event(1, 0, 0), NO_VALUE);
        PulseWheel y = new PulseWheel();
        y.turn(0, 4);
        y.tick(1, 4, 0);
        spin(y, 0, 1, false);
        y.tick(1, 6, 0);
        Check.due("9 fault", y.event(0, 0, 0), 0);
        Check.due("9 ahead of what the zero did", y.event(0, 0, 2), 1);
        Check.due("9 what the zero did", y.of(0, 0), 0);
    }

    private static void promise10Row() {
        PulseWheel x = new PulseWheel();
        for (int no : NO_READERS) {
            Check.due("10 no reader", x.row(no), 0);
        }
        int phase = spin(x, 0, 7, false);
        Check.due("10 forward", x.row(0), 7);
        phase = spin(x, phase, -2, false);
        Check.due("10 back", x.row(0), 2);
        phase = spin(x, phase, 1, false);
        Check.due("10 one", x.row(0), 1);
        x.tick(1, BITS[(phase + 2) % 4], 0);
        Check.due("10 fault", x.row(0), 0);
        phase = spin(x, (phase + 2) % 4, -3, false);
        Check.due("10 behind a fault", x.row(0), 3);
        spin(x, phase, -297, false);
        Check.due("10 all kept", x.row(0), 300);
        spin(x, Math.floorMod(phase - 297, 4), -5, false);
        Check.due("10 no more than kept", x.row(0), 300);
        Check.due("10 other reader", x.row(1), 0);
    }

    private static void promise11Period() {
        PulseWheel x = new PulseWheel();
        x.tick(4, 0, 0);
        x.tick(3, 1, 0);
        Check.due("11 one event", x.period(0, 2, 0), NONE);
        x.tick(1, 3, 0);
        duePeriod("11 two", x, 2, 2, 1, 4, 1, NONE);
        x.tick(2, 3, 0);
        duePeriod("11 by the time since", x, 2, 5, 2, 4, 1);
        x.tick(1, 3, 0);
        duePeriod("11 in lowest terms", x, 2, 3, 1, 4, 1);
        x.tick(1, 2, 0);
        duePeriod("11 three", x, 3, 3, 1, 4, 1);
        for (int no : NO_READERS) {
            Check.due("11 no reader", x.period(no, 2, 0), NONE);
            Check.due("11 no part", x.period(0, 2, no == 2 || no == 3 ? 4 : no), NONE);
        }
        for (int no : new int[] {-1, 0, 1, 4, 31, Integer.MIN_VALUE, Integer.MAX_VALUE}) {
            Check.due("11 of " + no, x.period(0, no, 0), NONE);
        }
        PulseWheel y = new PulseWheel();
        int phase = spin(y, 0, -31, false);
        duePeriod("11 thirty back", y, 30, 29, 30, 30, 29);
        Check.due("11 thirty-one", y.period(0, 31, 0), NONE);
        duePeriod("11 each tick", y, 2, 1, 2, 2, 1);
        spin(y, phase, 1, false);
        Check.due("11 not of two sorts", y.period(0, 2, 0), NONE);
        PulseWheel z = new PulseWheel();
        z.tick(1, 3, 0);
        z.tick(1, 0, 0);
        Check.due("11 not of faults", z.period(0, 2, 0), NONE);
    }

    private static void promise11NoMotion() {
        PulseWheel x = new PulseWheel();
        x.tick(1, 1, 0);
        x.tick(1, 3, 0);
        x.tick(1, 3, 0);
        duePeriod("11 least below most", x, 2, 1, 1, 2, 1);
        x.tick(1, 3, 0);
        for (int part = 0; part < 4; part++) {
            Check.due("11 least is most", x.period(0, 2, part), NONE);
        }
        x.tick(5, 3, 0);
        Check.due("11 least above most", x.period(0, 2, 2), NONE);
        PulseWheel y = new PulseWheel();
        y.tick(1, 1, 0);
        y.tick(9, 3, 0);
        y.tick(1, 2, 0);
        duePeriod("11 the latest two are fine", y, 2, 8, 1, 10, 1);
        Check.due("11 not the three", y.period(0, 3, 0), NONE);
    }

    private static void promise12Moved() {
        Hand hand = new Hand();
        PulseWheel x = hand.wheel;
        for (int no : NO_READERS) {
            Check.due("12 no reader", x.moved(no, 1), NO_VALUE);
        }
        hand.move(0, 499);
        Check.due("12 since the beginning", x.moved(0, 499), 499);
        Check.due("12 too early", x.moved(0, 500), NO_VALUE);
        hand.move(0, 3);
        Check.due("12 500", x.moved(0, 500), 500);
        for (int no : new int[] {0, -1, 501, Integer.MIN_VALUE, Integer.MAX_VALUE}) {
            Check.due("12 moved " + no, x.moved(0, no), NO_VALUE);
        }
        hand.rest(2000);
        Check.due("12 at rest", x.moved(0, 500), 0);
        hand.move(0, -2);
        Check.due("12 back", x.moved(0, 2), -2);
        Check.due("12 by one", x.moved(0, 1), -1);
        x.turn(0, 4);
        Check.due("12 anew", x.moved(0, 1), NO_VALUE);
        x.tick(1, 5, 0);
        x.tick(1, 2, 0);
        x.tick(1, 7, 0);
        Check.due("12 anew at 0", x.moved(0, 3), x.of(0, 0));
        Check.due("12 anew, one too many", x.moved(0, 4), NO_VALUE);
        x.turn(0, 4);
        x.tick(1, 4, 0);
        x.tick(1, 1, 0);
        x.tick(1, 6, 0);
        Check.due("12 by what a zero did", x.moved(0, 1), -1);
        x.tick(1, 2, 0);
        Check.due("12 place behind a zero", x.moved(0, 1), 0);
    }

    /** A turn of 4 counts of reader 0 from phase 0 with these lengths, and the mark with the last one. */
    private static void roll(PulseWheel x, int... lengths) {
        for (int k = 0; k < 4; k++) {
            int before = BITS[k];
            x.tick(lengths[k] - 1, before, 0);
            x.tick(1, BITS[(k + 1) % 4] | (k == 3 ? 4 : 0), 0);
        }
    }

    private static void promise13Tooth() {
        PulseWheel x = new PulseWheel();
        x.turn(0, 4);
        roll(x, 1, 1, 1, 1);
        Check.due("13 nothing yet", x.tooth(0, 0), 0);
        roll(x, 2, 9, 3, 4);
        roll(x, 5, 1, 7, 1);
        int[] wants = {7, 10, 10, 5};
        for (int k = 0; k < 4; k++) {
            Check.due("13 tooth " + k, x.tooth(0, k), wants[k]);
        }
        for (int no : new int[] {-1, 4, 63, 64, Integer.MIN_VALUE, Integer.MAX_VALUE}) {
            Check.due("13 no tooth " + no, x.tooth(0, no), NONE);
        }
        for (int no : NO_READERS) {
            Check.due("13 no reader", x.tooth(no, 0), NONE);
        }
        Check.due("13 other reader", x.tooth(1, 15), 0);
        Check.due("13 other reader has 16", x.tooth(1, 16), NONE);
        x.turn(0, 64);
        Check.due("13 anew", x.tooth(0, 1), 0);
        int phase = spin(x, 0, 64, true);
        spin(x, phase, 64, true);
        Check.due("13 the last of 64", x.tooth(0, 63), 1);
    }

    private static void promise14Wholes() {
        PulseWheel x = new PulseWheel();
        for (int no : NO_READERS) {
            Check.due("14 no reader", x.wholes(no), NONE);
        }
        x.turn(0, 4);
        x.tick(1, 4, 0);
        roll(x, 1, 1, 1, 1);
        Check.due("14 none ahead", x.wholes(0), 0);
        roll(x, 1, 1, 1, 1);
        Check.due("14 one", x.wholes(0), 1);
        spin(x, 0, -4, true);
        Check.due("14 not of back", x.wholes(0), 1);
        int phase = spin(x, 0, 3, true);
        Check.due("14 too few", x.wholes(0), 1);
        phase = spin(x, phase, 5, true);
        Check.due("14 too many", x.wholes(0), 1);
        roll(x, 1, 1, 1, 1);
        Check.due("14 two", x.wholes(0), 2);
        phase = spin(x, phase, 1, false);
        x.tick(1, BITS[(phase + 2) % 4], 0);
        spin(x, (phase + 2) % 4, 2, true);
        Check.due("14 a fault among four", x.wholes(0), 2);
        promise14WholesOfDoubtful();
    }

    private static void promise14WholesOfDoubtful() {
        PulseWheel x = new PulseWheel();
        x.turn(0, 4);
        x.tick(1, 3, 0);
        x.tick(9, 7, 0);
        int phase = spin(x, 2, 4, true);
        Check.due("14 no origin is needed, nor a forward one ahead", x.wholes(0), 1);
        Check.due("14 no origin", x.of(0, 11), 0);
        Check.due("14 from the fault on", x.tooth(0, 0), 10);
        x.tick(3, BITS[phase], 0);
        x.tick(1, BITS[phase] | 4, 0);
        spin(x, phase, 4, true);
        Check.due("14 from the zero between", x.wholes(0), 2);
        Check.due("14 the latest ahead", x.tooth(0, 0), 15);
        x.turn(0, 4);
        Check.due("14 anew", x.wholes(0), 0);
        spin(x, 0, 4, true);
        Check.due("14 no zero ahead", x.wholes(0), 0);
        x.turn(0, 4);
        spin(x, 0, 1, true);
        x.turn(0, 4);
        spin(x, 0, 5, true);
        Check.due("14 the zero ahead was before anew", x.wholes(0), 0);
    }

    private static void promise15Widest() {
        PulseWheel x = new PulseWheel();
        for (int no : NO_READERS) {
            Check.due("15 no reader", x.widest(no), NONE);
        }
        x.turn(0, 4);
        roll(x, 9, 1, 1, 1);
        Check.due("15 no whole turn", x.widest(0), NONE);
        roll(x, 2, 2, 2, 2);
        Check.due("15 the first of the same", x.widest(0), 0);
        roll(x, 1, 3, 1, 3);
        Check.due("15 the first of two", x.widest(0), 1);
        roll(x, 1, 1, 1, 2);
        Check.due("15 the last", x.widest(0), 3);
        Check.due("15 other reader", x.widest(1), NONE);
        x.hold(0, 1);
        Check.due("15 anew", x.widest(0), NONE);
    }

    private static void promise16Apart() {
        PulseWheel x = new PulseWheel();
        x.turn(0, 4);
        x.turn(1, 5);
        x.tick(1, 4, 0);
        spin(x, 0, 20, false);
        Check.due("16 one has no origin", x.apart(), NONE);
        x.tick(1, 0, 4);
        Check.due("16 apart as soon as both have one", x.apart(), 22);
        spin(x, 0, -16, false);
        Check.due("16 20 is above 9", x.apart(), 22);
        spin(x, 0, -3, false);
        Check.due("16 5 is not", x.apart(), NONE);
        x.tick(5, 1, 0);
        spin(x, 1, -2, false);
        Check.due("16 below", x.apart(), NONE);
        int since = x.about(0) + 1;
        spin(x, 3, -1, false);
        Check.due("16 ten below", x.apart(), since);
        x.tick(2, 2 == x.of(0, 3) ? 3 : 0, 1);
        Check.due("16 still", x.apart(), since);
        PulseWheel y = new PulseWheel();
        y.turn(0, 5);
        y.turn(1, 4);
        y.tick(1, 4, 4);
        spin(y, 0, 2, false);
        Check.due("16 8 of 9", y.apart(), NONE);
        y.tick(1, 3, 2);
        Check.due("16 13 of 9", y.apart(), 4);
        promise16ApartAtTheEdge();
    }

    private static void promise16ApartAtTheEdge() {
        PulseWheel x = new PulseWheel();
        x.turn(0, 4);
        x.turn(1, 4);
        x.tick(1, 4, 4);
        spin(x, 0, 2, false);
        Check.due("16 just 8 of 8", x.apart(), NONE);
        x.tick(1, 2, 0);
        Check.due("16 12 of 8", x.apart(), 4);
        x.tick(1, 2, 1);
        Check.due("16 just 8 again", x.apart(), NONE);
        x.tick(1, 1, 1);
        x.tick(1, 5, 1);
        dueOf("16 mended", x, 0, 4, 4, 4);
        Check.due("16 asked behind the zero", x.apart(), 7);
    }

    private static void promise16ApartAnew() {
        PulseWheel x = new PulseWheel();
        x.tick(1, 4, 4);
        spin(x, 0, 4, false);
        Check.due("16 apart", x.apart(), 4);
        x.keep(0);
        x.hold(1, 1);
        x.tick(1, 0, 0);
        Check.due("16 agree while one has no origin", x.apart(), NONE);
        x.tick(1, 0, 4);
        Check.due("16 apart again", x.apart(), 7);
        x.back(0);
        Check.due("16 as the image has it", x.apart(), 4);
        PulseWheel y = new PulseWheel();
        spin(y, 0, 12, true);
        y.tick(1, 0, 4);
        Check.due("16 from the origin on, not from 0", y.apart(), NONE);
    }

    /** Agreement is asked at a tick's end, so a reader told of a hold or turn changes nothing before one. */
    private static void promise16ApartUpToTheNextTick() {
        for (int mover = 0; mover < 2; mover++) {
            for (int told = 0; told < 2; told++) {
                for (int counts : new int[] {0, 4, 16, 64}) {
                    promise16ApartTold(mover, told, counts);
                }
            }
        }
    }

    private static void promise16ApartTold(int mover, int told, int counts) {
        String when = "16 mover " + mover + ", told " + told + " of " + counts + ": ";
        PulseWheel x = new PulseWheel();
        x.tick(1, 4, 4);
        for (int bits : new int[] {1, 3, 2, 0, 1, 3, 2, 0}) {
            x.tick(1, mover == 0 ? bits : 0, mover == 1 ? bits : 0);
        }
        Check.due(when + "apart", x.apart(), 4);
        Check.due(when + "no tick since", apartOnceTold(x, told, counts), 4);
        x.keep(3);
        x.tick(0, 0, 0);
        x.play(0);
        Check.due(when + "none by tick(0) and play(0)", x.apart(), 4);
        Check.due(when + "the other reader told too", apartOnceTold(x, 1 - told, counts), 4);
        x.tick(1, 0, 0);
        Check.due(when + "no origin at a tick's end", x.apart(), NONE);
        Check.due(when + "told behind that", apartOnceTold(x, told, counts), NONE);
        x.back(3);
        Check.due(when + "as the image has it", x.apart(), 4);
        x.tick(1, told == 0 ? 4 : 0, told == 1 ? 4 : 0);
        // The reader that never moved, told: the other one's eight counts still stand against its new origin.
        Check.due(when + "an origin by the next tick's end", x.apart(), told == mover ? NONE : 4);
    }

    /** Tells a reader of a turn, or for no counts of its hold. */
    private static int apartOnceTold(PulseWheel x, int reader, int counts) {
        Check.due("16 told", counts == 0 ? x.hold(reader, 1) : x.turn(reader, counts), true);
        return x.apart();
    }

    private static void promise17Keep() {
        PulseWheel x = new PulseWheel();
        for (int no : new int[] {-1, 4, Integer.MIN_VALUE, Integer.MAX_VALUE}) {
            Check.due("17 keep " + no, x.keep(no), false);
        }
        Check.due("17 none", x.about(2), 0);
        Check.due("17 keep 3", x.keep(3), true);
        Check.due("17 one", x.about(2), 8);
        spin(x, 0, 3, true);
        Check.due("17 keep 0", x.keep(0), true);
        Check.due("17 two", x.about(2), 9);
        spin(x, 3, 2, false);
        Check.due("17 keep 0 again", x.keep(0), true);
        Check.due("17 still two", x.about(2), 9);
        x.back(3);
        Check.due("17 as new", x.of(0, 0), 0);
        Check.due("17 no ticks", x.about(0), 0);
        x.back(0);
        Check.due("17 the later one", x.of(0, 0), 5);
        Check.due("17 its origin", x.origin(0), 3);
    }

    private static void promise18Back() {
        PulseWheel x = new PulseWheel();
        for (int no : new int[] {-1, 0, 3, 4, Integer.MIN_VALUE, Integer.MAX_VALUE}) {
            Check.due("18 back " + no, x.back(no), false);
        }
        x.hold(1, 2);
        x.turn(0, 4);
        roll(x, 1, 1, 1, 1);
        roll(x, 2, 3, 1, 1);
        x.tick(1, 0, 1);
        x.keep(1);
        x.feed(0, 0, 0, 0, 0);
        x.hold(1, 7);
        x.turn(0, 64);
        spin(x, 0, 310, true);
        x.keep(2);
        Check.due("18 back", x.back(1), true);
        dueOf("18 all of 0", x, 0, 8, 8, 8, 0, 0, 1, 4, 8, 0, 0, 2, 1);
        Check.due("18 ticks", x.about(0), 12);
        Check.due("18 the tape stays", x.about(1), 20);
        Check.due("18 the images stay", x.about(2), 6);
        Check.due("18 event", x.event(0, 7, 1), 1);
        Check.due("18 no more events", x.event(0, 8, 1), NO_VALUE);
        Check.due("18 moved", x.moved(0, 12), 8);
        Check.due("18 row", x.row(0), 8);
        Check.due("18 tooth", x.tooth(0, 1), 3);
        Check.due("18 widest", x.widest(0), 1);
        Check.due("18 wholes", x.wholes(0), 1);
        x.tick(1, 0, 1);
        Check.due("18 a line half held is kept, too", x.of(1, 4), 1);
        Check.due("18 back to what came later", x.back(2), true);
        Check.due("18 its place", x.of(0, 0), 310);
        Check.due("18 back twice", x.back(1), true);
        roll(x, 1, 1, 1, 1);
        Check.due("18 the turn goes on", x.wholes(0), 2);
    }

    private static void promise19About() {
        PulseWheel x = new PulseWheel();
        for (int no : new int[] {-1, 3, Integer.MIN_VALUE, Integer.MAX_VALUE}) {
            Check.due("19 about " + no, x.about(no), NONE);
        }
        x.tick(2000, 1, 1);
        x.feed(1, 2, 3, 4, 5);
        x.feed(1, 2, 3, 4, 5);
        x.keep(0);
        x.keep(1);
        x.keep(2);
        x.keep(3);
        Check.due("19 ticks", x.about(0), 2000);
        Check.due("19 tape", x.about(1), 40);
        Check.due("19 images", x.about(2), 15);
        x.play(40);
        Check.due("19 ticks played", x.about(0), 2040);
    }
}
