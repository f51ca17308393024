/** Steady motions of known period: whenever asked, the period must lie in the span told, and the span be real. */
public final class MotionTest {
    private static final int[] BITS = {0, 1, 3, 2};
    private static final int TICKS = 160;
    /** So seldom it is asked that the calls stay below 512; each motion is asked at ticks of its own. */
    private static final int TICKS_AN_ASKING = 10;

    private MotionTest() {
    }

    public static void main(String[] args) {
        for (int bottom = 1; bottom <= 7; bottom++) {
            for (int top = bottom; top <= 9 * bottom; top += 2) {
                for (int start = 0; start < top; start += 1 + top / 4) {
                    run(top, bottom, start, 1);
                    run(top, bottom, start, -1);
                }
            }
        }
        Check.end();
    }

    /** Counts at the moments (start + k * top) / bottom, k from 1 on: an event in the first tick not ahead of each. */
    private static void run(int top, int bottom, int start, int way) {
        PulseWheel x = new PulseWheel();
        for (int tick = 1; tick <= TICKS; tick++) {
            int counts = Math.floorDiv(tick * bottom - start, top);
            x.tick(1, BITS[Math.floorMod(way * Math.max(counts, 0), 4)], 0);
            if ((tick + top + start) % TICKS_AN_ASKING == 0) {
                ask(x, tick, top, bottom);
            }
        }
    }

    private static void ask(PulseWheel x, int tick, int top, int bottom) {
        int row = x.row(0);
        for (int m = 2; m <= 30; m += 7) {
            if (row >= m) {
                dueWithin(x, m, "motion " + top + "/" + bottom + " by " + m + " at " + tick, top, bottom);
            } else {
                Check.due("too few of " + m, x.period(0, m, 0), PulseWheel.NONE);
            }
        }
    }

    private static void dueWithin(PulseWheel x, int m, String name, int top, int bottom) {
        int leastTop = x.period(0, m, 0);
        int leastBottom = x.period(0, m, 1);
        int mostTop = x.period(0, m, 2);
        int mostBottom = x.period(0, m, 3);
        Check.due(name + ": above the least", leastTop * bottom < top * leastBottom && leastTop >= 0, true);
        Check.due(name + ": below the most", top * mostBottom < mostTop * bottom && mostBottom > 0, true);
    }
}
