import java.util.Random;

/** Made-up runs of calls, the same ones each time: every answer must be the model's. */
public final class ModelTest {
    private static final int RUNS = 400;
    /** What an object answers behind these is free. */
    private static final int CALLS = 512;
    private static final int MOST_CALLS_AT_ONCE = 7;
    private static final int[] BITS = {0, 1, 3, 2};
    private static final int[] ODD = {-1, 2, 3, 4, 5, 16, 17, 64, 65, 300, 500, 501, 2000, 2001, -2000000,
        Integer.MIN_VALUE, Integer.MAX_VALUE};

    /** A wheel that really turns, so that most of what the readers see has a meaning. */
    private static final class Wheel {
        final Random random;
        int angle = 0;
        int way = 1;
        int turn = 16;
        int markWidth = 1;
        double noise = 0.02;

        Wheel(Random random) {
            this.random = random;
        }

        int bits(boolean moves) {
            if (moves) {
                angle += way;
            }
            if (random.nextInt(150) == 0) {
                way = -way;
            }
            int bits = BITS[Math.floorMod(angle, 4)] | (Math.floorMod(angle, turn) < markWidth ? 4 : 0);
            if (random.nextDouble() < noise) {
                bits ^= 1 << random.nextInt(3);
            }
            if (random.nextDouble() < noise / 4) {
                angle += random.nextBoolean() ? 2 : turn - 2;
            }
            return bits;
        }
    }

    private final Random random;
    private final int run;
    private final PulseWheel real = new PulseWheel();
    private final Model model = new Model();
    private final Wheel[] wheels;
    private final int pace;
    private int call = 0;

    private ModelTest(int run) {
        this.run = run;
        random = new Random(7919L * run + 1);
        wheels = new Wheel[] {new Wheel(random), new Wheel(random)};
        pace = 1 + random.nextInt(6);
        double noise = random.nextInt(3) * 0.02;
        for (Wheel w : wheels) {
            w.noise = noise;
            w.markWidth = 1 + random.nextInt(3);
        }
    }

    public static void main(String[] args) {
        for (int run = 1; run <= RUNS && Check.wrongSoFar() == 0; run++) {
            new ModelTest(run).play();
        }
        Check.end();
    }

    private void play() {
        tell(0, 1 + random.nextInt(2), 4 + random.nextInt(random.nextInt(4) == 0 ? 61 : 6));
        tell(1, 1 + random.nextInt(2), 4 + random.nextInt(random.nextInt(4) == 0 ? 61 : 6));
        while (call <= CALLS - MOST_CALLS_AT_ONCE && Check.wrongSoFar() == 0) {
            int kind = random.nextInt(100);
            if (kind < 22) {
                feedAndPlay();
            } else if (kind < 40) {
                tickSome();
            } else if (kind < 42) {
                change();
            } else if (kind < 46) {
                image();
            } else {
                ask();
            }
        }
    }

    private void due(String what, long got, long want) {
        call++;
        Check.due("run " + run + ", call " + call + ": " + what, got, want);
    }

    private int odd(int ordinary) {
        return random.nextInt(25) == 0 ? ODD[random.nextInt(ODD.length)] : ordinary;
    }

    private void tell(int reader, int hold, int turn) {
        wheels[reader].turn = turn;
        due("hold", real.hold(reader, hold) ? 1 : 0, model.hold(reader, hold) ? 1 : 0);
        due("turn", real.turn(reader, turn) ? 1 : 0, model.turn(reader, turn) ? 1 : 0);
    }

    private int nextByte(boolean moves, boolean together) {
        if (random.nextInt(3000) == 0) {
            return 64 << random.nextInt(2) | random.nextInt(64);
        }
        boolean other = together ? moves : random.nextInt(pace) == 0;
        return wheels[0].bits(moves) | wheels[1].bits(other) << 3;
    }

    private void feedAndPlay() {
        int feeds = 1 + random.nextInt(5);
        boolean together = random.nextInt(3) != 0;
        boolean steady = random.nextInt(3) != 0;
        int at = 0;
        for (int f = 0; f < feeds; f++) {
            int[] w = new int[5];
            for (int i = 0; i < 20; i++) {
                at++;
                boolean moves = steady ? at % pace == 0 : random.nextInt(pace) == 0;
                w[i / 4] = w[i / 4] << 8 | nextByte(moves, together);
            }
            due("feed", real.feed(w[0], w[1], w[2], w[3], w[4]), model.feed(w[0], w[1], w[2], w[3], w[4]));
        }
        if (random.nextInt(12) != 0) {
            int n = random.nextInt(4) == 0 ? random.nextInt(feeds * 20 + 2) - 1 : model.about(1);
            due("play(" + n + ")", real.play(n), model.play(n));
        }
    }

    private void tickSome() {
        int n = odd(random.nextInt(60) == 0 ? random.nextInt(1500) : 1 + random.nextInt(pace + 1));
        int first = odd(random.nextInt(10) == 0 ? random.nextInt(8) : wheels[0].bits(random.nextBoolean()));
        int second = odd(random.nextInt(10) == 0 ? random.nextInt(8) : wheels[1].bits(random.nextBoolean()));
        due("tick(" + n + ", " + first + ", " + second + ")", real.tick(n, first, second), model.tick(n, first, second));
    }

    private void change() {
        int reader = odd(random.nextInt(2));
        if (random.nextInt(8) == 0) {
            int hold = odd(1 + random.nextInt(4));
            due("hold(" + reader + ", " + hold + ")", real.hold(reader, hold) ? 1 : 0, model.hold(reader, hold) ? 1 : 0);
        } else if (random.nextInt(3) == 0) {
            int turn = odd(4 + random.nextInt(6));
            due("turn(" + reader + ", " + turn + ")", real.turn(reader, turn) ? 1 : 0, model.turn(reader, turn) ? 1 : 0);
        }
        askApart();
    }

    private void image() {
        int k = odd(random.nextInt(4));
        if (random.nextInt(3) != 0) {
            due("keep(" + k + ")", real.keep(k) ? 1 : 0, model.keep(k) ? 1 : 0);
        } else {
            due("back(" + k + ")", real.back(k) ? 1 : 0, model.back(k) ? 1 : 0);
        }
    }

    private void ask() {
        int reader = odd(random.nextInt(2));
        switch (random.nextInt(12)) {
            case 0, 1 -> askOf(reader);
            case 2 -> due("origin(" + reader + ")", real.origin(reader), model.origin(reader));
            case 3 -> askEvent(reader);
            case 4 -> due("row(" + reader + ")", real.row(reader), model.row(reader));
            case 5 -> askPeriod(reader);
            case 6 -> askMoved(reader);
            case 7 -> askTooth(reader);
            case 8 -> due("wholes(" + reader + ")", real.wholes(reader), model.wholes(reader));
            case 9 -> due("widest(" + reader + ")", real.widest(reader), model.widest(reader));
            case 10 -> askApart();
            default -> askAbout();
        }
    }

    private void askOf(int reader) {
        int what = odd(random.nextInt(12));
        due("of(" + reader + ", " + what + ")", real.of(reader, what), model.of(reader, what));
    }

    private void askEvent(int reader) {
        int k = odd(random.nextInt(random.nextBoolean() ? 4 : 320));
        int what = odd(random.nextInt(3));
        due("event(" + reader + ", " + k + ", " + what + ")", real.event(reader, k, what), model.event(reader, k, what));
    }

    private void askPeriod(int reader) {
        int m = odd(random.nextBoolean() ? 2 + random.nextInt(3) : 2 + random.nextInt(29));
        int part = odd(random.nextInt(4));
        due("period(" + reader + ", " + m + ", " + part + ")", real.period(reader, m, part), model.period(reader, m, part));
    }

    private void askMoved(int reader) {
        int n = odd(1 + random.nextInt(500));
        due("moved(" + reader + ", " + n + ")", real.moved(reader, n), model.moved(reader, n));
    }

    private void askTooth(int reader) {
        int k = odd(random.nextInt(random.nextBoolean() ? 10 : 64));
        due("tooth(" + reader + ", " + k + ")", real.tooth(reader, k), model.tooth(reader, k));
    }

    private void askApart() {
        due("apart()", real.apart(), model.apart());
    }

    private void askAbout() {
        int what = odd(random.nextInt(3));
        due("about(" + what + ")", real.about(what), model.about(what));
    }
}
