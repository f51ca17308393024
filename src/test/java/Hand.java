/** Two wheels turned by hand: the raw bits of both readers are kept, so that one can move while the other rests. */
final class Hand {
    private static final int[] BITS = {0, 1, 3, 2};
    private static final int MOST_SINGLE_TICKS = 8;
    private static final int BYTES_A_FEED = 20;

    final PulseWheel wheel = new PulseWheel();
    private final int[] phases = new int[2];

    private int raw(int reader) {
        return BITS[phases[reader]];
    }

    private int both() {
        return raw(0) | raw(1) << 3;
    }

    private void step(int reader, int phases) {
        this.phases[reader] = Math.floorMod(this.phases[reader] + phases, 4);
    }

    private static int markOf(int reader) {
        return 4 << 3 * reader;
    }

    /** Ticks, one for each byte as play has them; many go by the tape, so that they need few calls. */
    void run(int... bytes) {
        if (bytes.length <= MOST_SINGLE_TICKS) {
            for (int b : bytes) {
                wheel.tick(1, b & 7, b >> 3);
            }
            return;
        }
        int[] tape = java.util.Arrays.copyOf(bytes, (bytes.length + BYTES_A_FEED - 1) / BYTES_A_FEED * BYTES_A_FEED);
        for (int at = 0; at < tape.length; at += BYTES_A_FEED) {
            wheel.feed(word(tape, at), word(tape, at + 4), word(tape, at + 8), word(tape, at + 12), word(tape, at + 16));
        }
        Check.due("all of the tape played", wheel.play(bytes.length), bytes.length);
    }

    private static int word(int[] bytes, int at) {
        return bytes[at] << 24 | bytes[at + 1] << 16 | bytes[at + 2] << 8 | bytes[at + 3];
    }

    /** Ticks in which nothing moves and no mark is seen. */
    void rest(int ticks) {
        for (int left = ticks; left > 0; left -= 2000) {
            wheel.tick(Math.min(left, 2000), raw(0), raw(1));
        }
    }

    /** Counts of a reader, each a tick long; below 0 they go back. */
    void move(int reader, int counts) {
        run(pathOf(reader, counts));
    }

    /** The same, and the reader sees its zero mark in the last of these ticks. */
    void moveMarked(int reader, int counts) {
        int[] bytes = pathOf(reader, counts);
        bytes[bytes.length - 1] |= markOf(reader);
        run(bytes);
    }

    private int[] pathOf(int reader, int counts) {
        int[] bytes = new int[Math.abs(counts)];
        for (int i = 0; i < bytes.length; i++) {
            step(reader, Integer.signum(counts));
            bytes[i] = both();
        }
        return bytes;
    }

    void fault(int reader) {
        step(reader, 2);
        run(both());
    }

    void faultMarked(int reader) {
        step(reader, 2);
        run(both() | markOf(reader));
    }

    /** A tick in which a reader sees its zero mark, and nothing moves. */
    void zero(int reader) {
        run(both() | markOf(reader));
    }

    /** A tick in which both see their zero marks, and nothing moves. */
    void zeroOfBoth() {
        run(both() | markOf(0) | markOf(1));
    }

    /** The reader begins anew, and so does its wheel. */
    void turn(int reader, int counts) {
        phases[reader] = 0;
        Check.due("turn(" + reader + ", " + counts + ")", wheel.turn(reader, counts), true);
    }

    /** The reader begins anew, and so does its wheel. */
    void hold(int reader, int ticks) {
        phases[reader] = 0;
        Check.due("hold(" + reader + ", " + ticks + ")", wheel.hold(reader, ticks), true);
    }
}
