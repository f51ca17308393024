import java.util.ArrayList;
import java.util.List;

/** The document in its own words: all that ever happened is kept, and every answer is worked out from it. */
final class Model {
    private static final int NO_VALUE = -2000000;
    /** A multiple of 1 .. 30, so that every fraction of a period is a whole number of these parts. */
    private static final long PARTS = 2329089562800L;

    private static final class Event {
        final int sort;
        final int tick;
        final int place;

        Event(int sort, int tick, int place) {
            this.sort = sort;
            this.tick = tick;
            this.place = place;
        }
    }

    private static final class Reader {
        int hold = 1;
        int turn = 16;
        List<Integer> raws = new ArrayList<>();
        List<Integer> places = new ArrayList<>(List.of(0));
        List<Event> events = new ArrayList<>();
        List<Integer> zeroTicks = new ArrayList<>();
        int clean = 0;
        int place = 0;
        int low = 0;
        int high = 0;
        int slips = 0;
        Integer origin = null;

        Reader copy() {
            Reader r = new Reader();
            r.hold = hold;
            r.turn = turn;
            r.raws = new ArrayList<>(raws);
            r.places = new ArrayList<>(places);
            r.events = new ArrayList<>(events);
            r.zeroTicks = new ArrayList<>(zeroTicks);
            r.clean = clean;
            r.place = place;
            r.low = low;
            r.high = high;
            r.slips = slips;
            r.origin = origin;
            return r;
        }

        int phase() {
            return switch (clean & 3) {
                case 0 -> 0;
                case 1 -> 1;
                case 3 -> 2;
                default -> 3;
            };
        }

        boolean hasBeenOther(int bit) {
            if (raws.size() < hold) {
                return false;
            }
            for (int i = 1; i <= hold; i++) {
                if ((raws.get(raws.size() - i) & bit) == (clean & bit)) {
                    return false;
                }
            }
            return true;
        }

        void take(int raw, int now) {
            raws.add(raw);
            int was = phase();
            int flips = 0;
            for (int bit = 1; bit <= 4; bit *= 2) {
                if (hasBeenOther(bit)) {
                    flips |= bit;
                }
            }
            clean ^= flips;
            int is = phase();
            if (is != was) {
                change(was, is, now);
            }
            if ((flips & 4) != 0 && (clean & 4) != 0) {
                zeroTicks.add(now);
                zero();
            }
            places.add(place);
        }

        void change(int was, int is, int now) {
            int sort = is == (was + 1) % 4 ? 1 : was == (is + 1) % 4 ? -1 : 0;
            place += sort;
            low += sort == 0 ? -2 : sort;
            high += sort == 0 ? 2 : sort;
            events.add(new Event(sort, now, place));
        }

        void zero() {
            if (origin == null) {
                origin = low == high ? Integer.valueOf(place) : null;
                return;
            }
            List<Integer> found = new ArrayList<>();
            for (int p = low; p <= high; p++) {
                if ((p - origin) % turn == 0) {
                    found.add(p);
                }
            }
            if (found.isEmpty()) {
                slips++;
            } else if (found.size() == 1) {
                place = found.get(0);
                low = place;
                high = place;
            }
        }

        int faults() {
            int n = 0;
            for (Event e : events) {
                n += e.sort == 0 ? 1 : 0;
            }
            return n;
        }

        /** The sums of the teeth, and behind them how many whole turns there were. */
        int[] teeth() {
            int[] sums = new int[turn + 1];
            for (int z = 1; z < zeroTicks.size(); z++) {
                addTurn(sums, zeroTicks.get(z - 1), zeroTicks.get(z));
            }
            return sums;
        }

        void addTurn(int[] sums, int from, int to) {
            Event ahead = null;
            List<Event> within = new ArrayList<>();
            for (Event e : events) {
                if (e.tick <= from) {
                    ahead = e;
                } else if (e.tick <= to) {
                    within.add(e);
                }
            }
            if (ahead == null || within.size() != turn) {
                return;
            }
            for (Event e : within) {
                if (e.sort != 1) {
                    return;
                }
            }
            sums[turn]++;
            Event last = ahead;
            for (int k = 0; k < turn; k++) {
                sums[k] += within.get(k).tick - last.tick;
                last = within.get(k);
            }
        }
    }

    private static final class Image {
        final Reader[] readers;
        final List<Boolean> agreed;

        Image(Reader[] readers, List<Boolean> agreed) {
            this.readers = new Reader[] {readers[0].copy(), readers[1].copy()};
            this.agreed = new ArrayList<>(agreed);
        }
    }

    private Reader[] readers = {new Reader(), new Reader()};
    private List<Boolean> agreed = new ArrayList<>();
    private List<Integer> tape = new ArrayList<>();
    private final Image[] images = new Image[4];

    private Reader reader(int reader) {
        return reader == 0 || reader == 1 ? readers[reader] : null;
    }

    private int now() {
        return agreed.size();
    }

    private boolean anew(int reader, int hold, int turn) {
        Reader r = new Reader();
        r.hold = hold;
        r.turn = turn;
        readers[reader] = r;
        return true;
    }

    boolean hold(int reader, int ticks) {
        Reader r = reader(reader);
        return r != null && ticks >= 1 && ticks <= 16 && anew(reader, ticks, r.turn);
    }

    boolean turn(int reader, int counts) {
        Reader r = reader(reader);
        return r != null && counts >= 4 && counts <= 64 && anew(reader, r.hold, counts);
    }

    private boolean agree() {
        Reader a = readers[0];
        Reader b = readers[1];
        if (a.origin == null || b.origin == null) {
            return true;
        }
        long left = (long) (a.place - a.origin) * b.turn;
        long right = (long) (b.place - b.origin) * a.turn;
        return left - right <= a.turn + b.turn && right - left <= a.turn + b.turn;
    }

    private void step(int first, int second) {
        int tick = now() + 1;
        readers[0].take(first, tick);
        readers[1].take(second, tick);
        agreed.add(agree());
    }

    int tick(int n, int first, int second) {
        if (n < 0 || n > 2000 || first < 0 || first > 7 || second < 0 || second > 7 || now() + n > 1000000) {
            return -1;
        }
        for (int i = 0; i < n; i++) {
            step(first, second);
        }
        return n;
    }

    int feed(int a, int b, int c, int d, int e) {
        if (tape.size() + 20 > 2000) {
            return -1;
        }
        for (int word : new int[] {a, b, c, d, e}) {
            for (int shift = 24; shift >= 0; shift -= 8) {
                tape.add((word >> shift) & 0xff);
            }
        }
        return tape.size();
    }

    int play(int n) {
        if (n < 0 || tape.size() < n) {
            return -1;
        }
        List<Integer> bytes = tape.subList(0, n);
        tape = new ArrayList<>();
        int played = 0;
        for (int b : bytes) {
            if (b >= 64 || now() == 1000000) {
                break;
            }
            step(b % 8, b / 8);
            played++;
        }
        return played;
    }

    int of(int reader, int what) {
        Reader r = reader(reader);
        if (r == null) {
            return NO_VALUE;
        }
        return switch (what) {
            case 0 -> r.place;
            case 1 -> r.low;
            case 2 -> r.high;
            case 3 -> r.phase();
            case 4 -> r.clean;
            case 5 -> r.hold;
            case 6 -> r.turn;
            case 7 -> r.events.size();
            case 8 -> r.faults();
            case 9 -> r.slips;
            case 10 -> r.zeroTicks.size();
            case 11 -> r.origin == null ? 0 : 1;
            default -> NO_VALUE;
        };
    }

    int origin(int reader) {
        Reader r = reader(reader);
        return r == null || r.origin == null ? NO_VALUE : r.origin;
    }

    int event(int reader, int k, int what) {
        Reader r = reader(reader);
        if (r == null || k < 0 || k >= 300 || k >= r.events.size()) {
            return NO_VALUE;
        }
        Event e = r.events.get(r.events.size() - 1 - k);
        return what == 0 ? e.sort : what == 1 ? e.tick : what == 2 ? e.place : NO_VALUE;
    }

    int row(int reader) {
        int sort = event(reader, 0, 0);
        if (sort == 0 || sort == NO_VALUE) {
            return 0;
        }
        int n = 0;
        while (event(reader, n, 0) == sort) {
            n++;
        }
        return n;
    }

    int period(int reader, int m, int part) {
        if (reader(reader) == null || m < 2 || m > 30 || part < 0 || part > 3 || row(reader) < m) {
            return -1;
        }
        long least = 0;
        long most = Long.MAX_VALUE;
        for (int j = 0; j < m; j++) {
            int tj = event(reader, m - 1 - j, 1);
            least = Math.max(least, (now() - tj) * (PARTS / (m - j)));
            for (int i = 0; i < j; i++) {
                int ti = event(reader, m - 1 - i, 1);
                least = Math.max(least, (tj - ti - 1) * (PARTS / (j - i)));
                most = Math.min(most, (tj - ti + 1) * (PARTS / (j - i)));
            }
        }
        if (least >= most) {
            return -1;
        }
        long asked = part < 2 ? least : most;
        long divisor = divisor(asked, PARTS);
        return (int) ((part % 2 == 0 ? asked : PARTS) / divisor);
    }

    private static long divisor(long a, long b) {
        return b == 0 ? a : divisor(b, a % b);
    }

    int moved(int reader, int n) {
        Reader r = reader(reader);
        if (r == null || n < 1 || n > 500 || n >= r.places.size()) {
            return NO_VALUE;
        }
        return r.place - r.places.get(r.places.size() - 1 - n);
    }

    int tooth(int reader, int k) {
        Reader r = reader(reader);
        return r == null || k < 0 || k >= r.turn ? -1 : r.teeth()[k];
    }

    int wholes(int reader) {
        Reader r = reader(reader);
        return r == null ? -1 : r.teeth()[r.turn];
    }

    int widest(int reader) {
        if (wholes(reader) < 1) {
            return -1;
        }
        int best = 0;
        for (int k = 0; k < readers[reader].turn; k++) {
            best = tooth(reader, k) > tooth(reader, best) ? k : best;
        }
        return best;
    }

    int apart() {
        int first = -1;
        for (int tick = now(); tick >= 1 && !agreed.get(tick - 1); tick--) {
            first = tick;
        }
        return first;
    }

    boolean keep(int k) {
        if (k < 0 || k > 3) {
            return false;
        }
        images[k] = new Image(readers, agreed);
        return true;
    }

    boolean back(int k) {
        if (k < 0 || k > 3 || images[k] == null) {
            return false;
        }
        Image copy = new Image(images[k].readers, images[k].agreed);
        readers = copy.readers;
        agreed = copy.agreed;
        return true;
    }

    int about(int what) {
        if (what == 2) {
            int bits = 0;
            for (int k = 3; k >= 0; k--) {
                bits = 2 * bits + (images[k] == null ? 0 : 1);
            }
            return bits;
        }
        return what == 0 ? now() : what == 1 ? tape.size() : -1;
    }
}
