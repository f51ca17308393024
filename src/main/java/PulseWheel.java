import java.util.Arrays;

/** A bench for a wheel that is read by two readers; ../shared/DOC.md tells what it promises. */
public final class PulseWheel {
    public static final int NONE = -1;

    private static final int NO_VALUE = -2000000;
    private static final int MOST_TICKS = 1000000;
    private static final int MOST_TICKS_A_CALL = 2000;
    private static final int IMAGES = 4;

    private static final int BYTES_A_WORD = 4;
    private static final int WORDS_A_FEED = 5;
    private static final int TAPE_WORDS = 500;
    private static final int STOP_BITS = 64 | 128;

    private static final int LINES = 3;
    private static final int LINE_BITS = 7;
    private static final int A_BIT = 1;
    private static final int B_BIT = 2;
    private static final int Z_BIT = 4;
    private static final int PHASES = 4;

    private static final int LEAST_HOLD = 1;
    private static final int MOST_HOLD = 16;
    private static final int LEAST_TURN = 4;
    private static final int MOST_TURN = 64;
    private static final int FIRST_TURN = 16;

    private static final int FORWARD = 1;
    private static final int BACK = -1;
    private static final int FAULT = 0;
    private static final int FAULT_WIDTH = 2;

    private static final int KEPT_EVENTS = 300;
    private static final int MOST_MOVED = 500;
    private static final int LEAST_EVENTS_OF_PERIOD = 2;
    private static final int MOST_EVENTS_OF_PERIOD = 30;
    private static final int PARTS_OF_PERIOD = 4;
    // Far above what Euclid's steps can need for numbers up to a million.
    private static final int MOST_DIVISIONS = 100;

    private final Bench bench;
    private final Bench[] images;
    private final int[] tape;
    private int tapeWords;

    public PulseWheel() {
        bench = new Bench();
        images = new Bench[IMAGES];
        tape = new int[TAPE_WORDS];
    }

    public boolean hold(int reader, int ticks) {
        Reader told = bench.readerAt(reader);
        if (told == null || ticks < LEAST_HOLD || ticks > MOST_HOLD) {
            return false;
        }
        told.holdTicks = ticks;
        told.beginAnew(bench.ticks);
        return true;
    }

    public boolean turn(int reader, int counts) {
        Reader told = bench.readerAt(reader);
        if (told == null || counts < LEAST_TURN || counts > MOST_TURN) {
            return false;
        }
        told.turnCounts = counts;
        told.beginAnew(bench.ticks);
        return true;
    }

    public int tick(int n, int first, int second) {
        if (n < 0 || n > MOST_TICKS_A_CALL || n > MOST_TICKS - bench.ticks) {
            return NONE;
        }
        if (!areLineBits(first) || !areLineBits(second)) {
            return NONE;
        }
        for (int i = 0; i < n; i++) {
            bench.step(first, second);
        }
        return n;
    }

    public int feed(int a, int b, int c, int d, int e) {
        if (tapeWords > tape.length - WORDS_A_FEED) {
            return NONE;
        }
        putWord(a);
        putWord(b);
        putWord(c);
        putWord(d);
        putWord(e);
        return tapeBytes();
    }

    public int play(int n) {
        if (n < 0 || n > tapeBytes()) {
            return NONE;
        }
        int played = 0;
        while (played < n && bench.ticks < MOST_TICKS) {
            int bits = tapeByte(played);
            if ((bits & STOP_BITS) != 0) {
                break;
            }
            bench.step(bits & LINE_BITS, (bits >> LINES) & LINE_BITS);
            played++;
        }
        tapeWords = 0;
        return played;
    }

    public int of(int reader, int what) {
        Reader asked = bench.readerAt(reader);
        if (asked == null) {
            return NO_VALUE;
        }
        switch (what) {
            case 0: return asked.place;
            case 1: return asked.low;
            case 2: return asked.high;
            case 3: return asked.phase();
            case 4: return asked.clean;
            case 5: return asked.holdTicks;
            case 6: return asked.turnCounts;
            case 7: return asked.log.count;
            case 8: return asked.faults;
            case 9: return asked.slips;
            case 10: return asked.zeros;
            case 11: return asked.hasOrigin ? 1 : 0;
            default: return NO_VALUE;
        }
    }

    public int origin(int reader) {
        Reader asked = bench.readerAt(reader);
        return asked != null && asked.hasOrigin ? asked.originPlace : NO_VALUE;
    }

    public int event(int reader, int k, int what) {
        Reader asked = bench.readerAt(reader);
        if (asked == null || k < 0 || k >= asked.log.kept()) {
            return NO_VALUE;
        }
        switch (what) {
            case 0: return asked.log.sortAt(k);
            case 1: return asked.log.tickAt(k);
            case 2: return asked.log.placeAt(k);
            default: return NO_VALUE;
        }
    }

    public int row(int reader) {
        Reader asked = bench.readerAt(reader);
        return asked == null ? 0 : asked.log.keptOfOneSort();
    }

    public int period(int reader, int m, int part) {
        Reader asked = bench.readerAt(reader);
        if (asked == null || part < 0 || part >= PARTS_OF_PERIOD) {
            return NONE;
        }
        if (m < LEAST_EVENTS_OF_PERIOD || m > MOST_EVENTS_OF_PERIOD || asked.log.keptOfOneSort() < m) {
            return NONE;
        }
        Span span = spanOf(asked.log, m, bench.ticks);
        return span.hasMotion() ? span.part(part) : NONE;
    }

    public int moved(int reader, int n) {
        Reader asked = bench.readerAt(reader);
        if (asked == null || n < 1 || n > MOST_MOVED || n > bench.ticks - asked.beganAt) {
            return NO_VALUE;
        }
        return asked.place - asked.placeAfter(bench.ticks - n);
    }

    public int tooth(int reader, int k) {
        Reader asked = bench.readerAt(reader);
        if (asked == null || k < 0 || k >= asked.turnCounts) {
            return NONE;
        }
        return asked.teeth.sumAt(k);
    }

    public int wholes(int reader) {
        Reader asked = bench.readerAt(reader);
        return asked == null ? NONE : asked.teeth.wholeTurns;
    }

    public int widest(int reader) {
        Reader asked = bench.readerAt(reader);
        if (asked == null || asked.teeth.wholeTurns == 0) {
            return NONE;
        }
        return asked.teeth.firstGreatest(asked.turnCounts);
    }

    public int apart() {
        // Agreement is asked at a tick's end only: a reader that began anew since changes nothing yet.
        return bench.apartSince;
    }

    public boolean keep(int k) {
        if (k < 0 || k >= images.length) {
            return false;
        }
        // Most objects keep few images, so one is made when it is first needed and used again.
        if (images[k] == null) {
            images[k] = new Bench();
        }
        images[k].copyFrom(bench);
        return true;
    }

    public boolean back(int k) {
        if (k < 0 || k >= images.length || images[k] == null) {
            return false;
        }
        bench.copyFrom(images[k]);
        return true;
    }

    public int about(int what) {
        switch (what) {
            case 0: return bench.ticks;
            case 1: return tapeBytes();
            case 2: return imageBits();
            default: return NONE;
        }
    }

    private static boolean areLineBits(int bits) {
        return bits >= 0 && bits <= LINE_BITS;
    }

    private void putWord(int word) {
        if (tapeWords < tape.length) {
            tape[tapeWords] = word;
            tapeWords++;
        }
    }

    private int tapeBytes() {
        return tapeWords * BYTES_A_WORD;
    }

    private int tapeByte(int at) {
        int word = at / BYTES_A_WORD;
        if (at < 0 || word >= tapeWords) {
            return STOP_BITS;
        }
        int behind = BYTES_A_WORD - 1 - at % BYTES_A_WORD;
        return (tape[word] >>> (8 * behind)) & 255;
    }

    private int imageBits() {
        int bits = 0;
        for (int k = 0; k < images.length; k++) {
            if (images[k] != null) {
                bits |= 1 << k;
            }
        }
        return bits;
    }

    private static Span spanOf(EventLog log, int m, int now) {
        Span span = new Span();
        int latest = m - 1;
        for (int i = 0; i < m; i++) {
            int from = log.tickAt(latest - i);
            span.raiseLeast(now - from, m - i);
            for (int j = i + 1; j < m; j++) {
                int ticks = log.tickAt(latest - j) - from;
                span.raiseLeast(ticks - 1, j - i);
                span.lowerMost(ticks + 1, j - i);
            }
        }
        return span;
    }

    /** All that an image keeps. */
    private static final class Bench {
        private final Reader first;
        private final Reader second;
        private int ticks;
        private int apartSince;

        private Bench() {
            first = new Reader();
            second = new Reader();
            apartSince = NONE;
        }

        private Reader readerAt(int reader) {
            if (reader == 0) {
                return first;
            }
            return reader == 1 ? second : null;
        }

        private void step(int firstRaw, int secondRaw) {
            ticks++;
            first.take(firstRaw, ticks);
            second.take(secondRaw, ticks);
            if (agree()) {
                apartSince = NONE;
            } else if (apartSince == NONE) {
                apartSince = ticks;
            }
        }

        private boolean agree() {
            if (!first.hasOrigin || !second.hasOrigin) {
                return true;
            }
            long firstWay = (long) (first.place - first.originPlace) * second.turnCounts;
            long secondWay = (long) (second.place - second.originPlace) * first.turnCounts;
            return Math.abs(firstWay - secondWay) <= first.turnCounts + second.turnCounts;
        }

        private void copyFrom(Bench other) {
            first.copyFrom(other.first);
            second.copyFrom(other.second);
            ticks = other.ticks;
            apartSince = other.apartSince;
        }
    }

    private static final class Reader {
        private final int[] runs;
        private final int[] path;
        private final EventLog log;
        private final Teeth teeth;
        private int holdTicks;
        private int turnCounts;
        private int clean;
        private int place;
        private int low;
        private int high;
        private boolean hasOrigin;
        private int originPlace;
        private int faults;
        private int slips;
        private int zeros;
        private int beganAt;

        private Reader() {
            runs = new int[LINES];
            // The place now and those of the last MOST_MOVED ticks.
            path = new int[MOST_MOVED + 1];
            log = new EventLog();
            teeth = new Teeth();
            holdTicks = LEAST_HOLD;
            turnCounts = FIRST_TURN;
        }

        private void beginAnew(int now) {
            Arrays.fill(runs, 0);
            log.forget();
            teeth.forget();
            clean = 0;
            place = 0;
            low = 0;
            high = 0;
            hasOrigin = false;
            originPlace = 0;
            faults = 0;
            slips = 0;
            zeros = 0;
            beganAt = now;
            notePlace(now);
        }

        private int phase() {
            int a = (clean & A_BIT) == 0 ? 0 : 1;
            return (clean & B_BIT) == 0 ? a : PHASES - 1 - a;
        }

        private void take(int raw, int now) {
            int cleanBefore = clean;
            int phaseBefore = phase();
            settleLines(raw);
            noteChange(Math.floorMod(phase() - phaseBefore, PHASES), now);
            if ((clean & ~cleanBefore & Z_BIT) != 0) {
                zeros++;
                teeth.learn(log, turnCounts);
                heedMark();
            }
            notePlace(now);
        }

        private void settleLines(int raw) {
            for (int line = 0; line < runs.length; line++) {
                int bit = 1 << line;
                runs[line] = ((raw ^ clean) & bit) == 0 ? 0 : runs[line] + 1;
                if (runs[line] >= holdTicks) {
                    clean ^= bit;
                    runs[line] = 0;
                }
            }
        }

        private void noteChange(int phases, int now) {
            if (phases == 0) {
                return;
            }
            if (phases == 1) {
                noteCount(FORWARD, now);
            } else if (phases == PHASES - 1) {
                noteCount(BACK, now);
            } else {
                faults++;
                low -= FAULT_WIDTH;
                high += FAULT_WIDTH;
                log.add(FAULT, now, place);
            }
        }

        private void noteCount(int sort, int now) {
            place += sort;
            low += sort;
            high += sort;
            log.add(sort, now, place);
        }

        private void heedMark() {
            if (hasOrigin) {
                mend();
            } else if (low == high) {
                hasOrigin = true;
                originPlace = place;
            }
        }

        private void mend() {
            int marked = high - Math.floorMod(high - originPlace, turnCounts);
            if (marked < low) {
                slips++;
            } else if (marked - turnCounts < low) {
                place = marked;
                low = marked;
                high = marked;
            }
        }

        private void notePlace(int now) {
            path[Math.floorMod(now, path.length)] = place;
        }

        private int placeAfter(int tick) {
            return path[Math.floorMod(tick, path.length)];
        }

        private void copyFrom(Reader other) {
            System.arraycopy(other.runs, 0, runs, 0, runs.length);
            System.arraycopy(other.path, 0, path, 0, path.length);
            log.copyFrom(other.log);
            teeth.copyFrom(other.teeth);
            holdTicks = other.holdTicks;
            turnCounts = other.turnCounts;
            clean = other.clean;
            place = other.place;
            low = other.low;
            high = other.high;
            hasOrigin = other.hasOrigin;
            originPlace = other.originPlace;
            faults = other.faults;
            slips = other.slips;
            zeros = other.zeros;
            beganAt = other.beganAt;
        }
    }

    /** The latest events of a reader; number 0 is the latest, and callers ask below kept() only. */
    private static final class EventLog {
        private final int[] sorts;
        private final int[] ticks;
        private final int[] places;
        private int count;
        // How many of one sort the latest ones are: above 0 forward, below 0 back, 0 for a fault.
        private int streak;

        private EventLog() {
            sorts = new int[KEPT_EVENTS];
            ticks = new int[KEPT_EVENTS];
            places = new int[KEPT_EVENTS];
        }

        private void forget() {
            count = 0;
            streak = 0;
        }

        private void add(int sort, int tick, int place) {
            count++;
            boolean goesOn = sort == FORWARD && streak > 0 || sort == BACK && streak < 0;
            streak = goesOn ? streak + sort : sort;
            int slot = slotOf(0);
            sorts[slot] = sort;
            ticks[slot] = tick;
            places[slot] = place;
        }

        private int kept() {
            return Math.min(count, KEPT_EVENTS);
        }

        private int slotOf(int k) {
            int number = count - 1 - k;
            return number < 0 ? 0 : number % KEPT_EVENTS;
        }

        private int sortAt(int k) {
            return sorts[slotOf(k)];
        }

        private int tickAt(int k) {
            return ticks[slotOf(k)];
        }

        private int placeAt(int k) {
            return places[slotOf(k)];
        }

        private int keptOfOneSort() {
            return Math.min(Math.abs(streak), KEPT_EVENTS);
        }

        private void copyFrom(EventLog other) {
            System.arraycopy(other.sorts, 0, sorts, 0, KEPT_EVENTS);
            System.arraycopy(other.ticks, 0, ticks, 0, KEPT_EVENTS);
            System.arraycopy(other.places, 0, places, 0, KEPT_EVENTS);
            count = other.count;
            streak = other.streak;
        }
    }

    private static final class Teeth {
        private final int[] sums;
        private int wholeTurns;
        private int eventsAtZero;

        private Teeth() {
            sums = new int[MOST_TURN];
        }

        private void forget() {
            Arrays.fill(sums, 0);
            wholeTurns = 0;
            eventsAtZero = 0;
        }

        private void learn(EventLog log, int turnCounts) {
            // No events at the zero before stands for no such zero, too: neither makes a whole turn.
            boolean hasOneAhead = eventsAtZero > 0;
            boolean isFull = log.count - eventsAtZero == turnCounts;
            if (hasOneAhead && isFull && log.streak >= turnCounts) {
                addTurn(log, turnCounts);
            }
            eventsAtZero = log.count;
        }

        private void addTurn(EventLog log, int turnCounts) {
            wholeTurns++;
            for (int k = 0; k < turnCounts && k < sums.length; k++) {
                int ago = turnCounts - 1 - k;
                sums[k] += log.tickAt(ago) - log.tickAt(ago + 1);
            }
        }

        private int sumAt(int k) {
            return k >= 0 && k < sums.length ? sums[k] : NONE;
        }

        private int firstGreatest(int turnCounts) {
            int best = 0;
            for (int k = 1; k < turnCounts && k < sums.length; k++) {
                if (sums[k] > sums[best]) {
                    best = k;
                }
            }
            return best;
        }

        private void copyFrom(Teeth other) {
            System.arraycopy(other.sums, 0, sums, 0, sums.length);
            wholeTurns = other.wholeTurns;
            eventsAtZero = other.eventsAtZero;
        }
    }

    /** The periods between a least and a most, both left out. */
    private static final class Span {
        private int leastTop;
        private int leastBottom;
        private int mostTop;
        private int mostBottom;

        private Span() {
            leastTop = 0;
            leastBottom = 1;
            // One over nothing stands above every fraction that is held against it.
            mostTop = 1;
            mostBottom = 0;
        }

        private static boolean isBelow(int top, int bottom, int otherTop, int otherBottom) {
            return (long) top * otherBottom < (long) otherTop * bottom;
        }

        private void raiseLeast(int top, int bottom) {
            if (isBelow(leastTop, leastBottom, top, bottom)) {
                leastTop = top;
                leastBottom = bottom;
            }
        }

        private void lowerMost(int top, int bottom) {
            if (isBelow(top, bottom, mostTop, mostBottom)) {
                mostTop = top;
                mostBottom = bottom;
            }
        }

        private boolean hasMotion() {
            return isBelow(leastTop, leastBottom, mostTop, mostBottom);
        }

        private int part(int part) {
            switch (part) {
                case 0: return reduced(leastTop, leastBottom);
                case 1: return reduced(leastBottom, leastTop);
                case 2: return reduced(mostTop, mostBottom);
                case 3: return reduced(mostBottom, mostTop);
                default: return NONE;
            }
        }

        private static int reduced(int number, int other) {
            int divisor = greatestDivisor(number, other);
            return divisor == 0 ? number : number / divisor;
        }

        private static int greatestDivisor(int one, int other) {
            int a = one;
            int b = other;
            for (int i = 0; i < MOST_DIVISIONS && b != 0; i++) {
                int rest = a % b;
                a = b;
                b = rest;
            }
            return a;
        }
    }
}
