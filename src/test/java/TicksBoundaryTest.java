/** The edges of ticks, of the tape, and of what it tells about itself: promises 4, 5, 6 and 19, a test for each. */
public final class TicksBoundaryTest {
    private static final int NONE = PulseWheel.NONE;
    private static final int MILLION = 1000000;

    private TicksBoundaryTest() {
    }

    public static void main(String[] args) {
        tickTooFew();
        tickTooMany();
        tickNoneAndMost();
        tickBitsTooSmall();
        tickBitsTooLarge();
        tickBitsAllThatCanBe();
        tickWrongBitsOfNoTicks();
        tickRefusedDoesNothing();
        tickUpToAMillion();
        tickBeyondAMillion();
        tickRefusedNearAMillionDoesNothing();
        feedUntilFull();
        feedBeyondFull();
        feedRefusedLeavesTheTape();
        feedHighestFirst();
        feedBehindThoseThere();
        feedOfNegatives();
        feedIsNoTick();
        playBelowNone();
        playMoreThanThere();
        playOfAnEmptyTape();
        playRefusedDoesNothing();
        playNoneEmptiesTheTape();
        playSomeEmptiesTheTape();
        playAllOfAFullTape();
        playBitsOfBothReaders();
        playEndsAheadOfAStop();
        playEndsAheadOfAStopAtEachPlace();
        playDoesNotSeeAStopBehind();
        playUpToAMillion();
        playBeyondAMillion();
        playAtAMillion();
        aboutNoSuchWhat();
        aboutTicks();
        aboutTape();
        aboutImages();
        Check.end();
    }

    /** An object with this many ticks, in calls of 2000 and one for the rest. */
    private static PulseWheel after(int ticks) {
        PulseWheel x = new PulseWheel();
        for (int left = ticks; left > 0; left -= 2000) {
            x.tick(Math.min(left, 2000), 0, 0);
        }
        Check.due("ticks", x.about(0), ticks);
        return x;
    }

    /** "n TICKS (0 .. 2000)": too few. */
    private static void tickTooFew() {
        PulseWheel x = new PulseWheel();
        for (int n : new int[] {-1, -2000, Integer.MIN_VALUE}) {
            Check.due("4 tick(" + n + ", 0, 0)", x.tick(n, 0, 0), NONE);
        }
        Check.due("4 ticks", x.about(0), 0);
    }

    /** "n TICKS (0 .. 2000)": too many. */
    private static void tickTooMany() {
        PulseWheel x = new PulseWheel();
        for (int n : new int[] {2001, 4000, MILLION, MILLION + 1, Integer.MAX_VALUE}) {
            Check.due("4 tick(" + n + ", 0, 0)", x.tick(n, 0, 0), NONE);
        }
        Check.due("4 ticks", x.about(0), 0);
    }

    /** "n TICKS (0 .. 2000) .. : n". */
    private static void tickNoneAndMost() {
        PulseWheel x = new PulseWheel();
        Check.due("4 none", x.tick(0, 7, 7), 0);
        Check.due("4 none are none", x.about(0), 0);
        Check.due("4 none change no line", x.of(0, 4), 0);
        Check.due("4 one", x.tick(1, 0, 0), 1);
        Check.due("4 one less than most", x.tick(1999, 0, 0), 1999);
        Check.due("4 most", x.tick(2000, 1, 0), 2000);
        Check.due("4 all of them", x.about(0), 4000);
        Check.due("4 these bits from the first of them on", x.event(0, 0, 1), 2001);
    }

    /** "RAW bits (0 .. 7 each)": too small. */
    private static void tickBitsTooSmall() {
        PulseWheel x = new PulseWheel();
        for (int bits : new int[] {-1, -7, -8, Integer.MIN_VALUE}) {
            Check.due("4 tick(1, " + bits + ", 0)", x.tick(1, bits, 0), NONE);
            Check.due("4 tick(1, 0, " + bits + ")", x.tick(1, 0, bits), NONE);
        }
        Check.due("4 ticks", x.about(0), 0);
    }

    /** "RAW bits (0 .. 7 each)": too large. */
    private static void tickBitsTooLarge() {
        PulseWheel x = new PulseWheel();
        for (int bits : new int[] {8, 9, 16, 64, 256, Integer.MAX_VALUE}) {
            Check.due("4 tick(1, " + bits + ", 0)", x.tick(1, bits, 0), NONE);
            Check.due("4 tick(1, 0, " + bits + ")", x.tick(1, 0, bits), NONE);
        }
        Check.due("4 ticks", x.about(0), 0);
    }

    /** "RAW bits (0 .. 7 each)": each with each. */
    private static void tickBitsAllThatCanBe() {
        PulseWheel x = new PulseWheel();
        for (int first = 0; first <= 7; first++) {
            for (int second = 0; second <= 7; second++) {
                Check.due("4 tick(1, " + first + ", " + second + ")", x.tick(1, first, second), 1);
                Check.due("4 lines of 0", x.of(0, 4), first);
                Check.due("4 lines of 1", x.of(1, 4), second);
            }
        }
    }

    /** "NONE .. if one can't be": the bits, too, of no ticks at all. */
    private static void tickWrongBitsOfNoTicks() {
        PulseWheel x = new PulseWheel();
        Check.due("4 first too large", x.tick(0, 8, 0), NONE);
        Check.due("4 first too small", x.tick(0, -1, 0), NONE);
        Check.due("4 second too large", x.tick(0, 0, 8), NONE);
        Check.due("4 second too small", x.tick(0, 0, -1), NONE);
    }

    /** "NONE, doing nothing, if one can't be". */
    private static void tickRefusedDoesNothing() {
        Twins.dueNothingDone("4 tick refused", x -> {
            x.tick(-1, 1, 1);
            x.tick(2001, 1, 1);
            x.tick(1, 8, 1);
            x.tick(1, 1, 8);
            x.tick(1, -1, 1);
            x.tick(1, 1, -1);
        });
    }

    /** "or there would be more than 1000000": just as many can be. */
    private static void tickUpToAMillion() {
        PulseWheel x = after(MILLION - 1);
        Check.due("4 the last one", x.tick(1, 3, 2), 1);
        Check.due("4 a million", x.about(0), MILLION);
        Check.due("4 its event", x.event(1, 0, 1), MILLION);
        Check.due("4 its fault", x.of(0, 8), 1);
        Check.due("4 moved in it", x.moved(1, 1), -1);
        PulseWheel y = after(MILLION - 2000);
        Check.due("4 the last two thousand", y.tick(2000, 0, 0), 2000);
        Check.due("4 a million of it", y.about(0), MILLION);
    }

    /** "NONE .. or there would be more than 1000000." */
    private static void tickBeyondAMillion() {
        PulseWheel x = after(MILLION - 1999);
        Check.due("4 one more than a million", x.tick(2000, 0, 0), NONE);
        Check.due("4 as many as before", x.about(0), MILLION - 1999);
        Check.due("4 just a million", x.tick(1999, 0, 0), 1999);
        Check.due("4 none behind", x.tick(1, 0, 0), NONE);
        Check.due("4 nor two thousand", x.tick(2000, 0, 0), NONE);
        Check.due("4 none are fine", x.tick(0, 0, 0), 0);
        Check.due("4 but not of wrong bits", x.tick(0, 8, 0), NONE);
        Check.due("4 still a million", x.about(0), MILLION);
    }

    private static void tickRefusedNearAMillionDoesNothing() {
        PulseWheel x = after(MILLION - 1);
        Check.due("4 one of two is too many", x.tick(2, 7, 7), NONE);
        for (int reader = 0; reader < 2; reader++) {
            Check.due("4 no line changed", x.of(reader, 4), 0);
            Check.due("4 no event", x.of(reader, 7), 0);
            Check.due("4 no zero", x.of(reader, 10), 0);
        }
        Check.due("4 ticks", x.about(0), MILLION - 1);
    }

    /** "Twenty bytes come behind those on the TAPE .. : how many there are". */
    private static void feedUntilFull() {
        PulseWheel x = new PulseWheel();
        for (int i = 1; i <= 100; i++) {
            Check.due("5 feed " + i, x.feed(i, -i, 0, Integer.MIN_VALUE, Integer.MAX_VALUE), 20 * i);
            Check.due("5 on the tape", x.about(1), 20 * i);
        }
    }

    /** "NONE, and nothing comes, if there would be more than 2000." */
    private static void feedBeyondFull() {
        PulseWheel x = new PulseWheel();
        for (int i = 0; i < 100; i++) {
            x.feed(0, 0, 0, 0, 0);
        }
        Check.due("5 full", x.feed(0, 0, 0, 0, 0), NONE);
        Check.due("5 full still", x.feed(1, 2, 3, 4, 5), NONE);
        Check.due("5 two thousand", x.about(1), 2000);
        Check.due("5 no more to play", x.play(2001), NONE);
        Check.due("5 played", x.play(2000), 2000);
        Check.due("5 room again", x.feed(0, 0, 0, 0, 0), 20);
    }

    /** "nothing comes": neither at the end nor over what came first. */
    private static void feedRefusedLeavesTheTape() {
        PulseWheel x = new PulseWheel();
        x.feed(0x01000000, 0, 0, 0, 0);
        for (int i = 0; i < 98; i++) {
            x.feed(0, 0, 0, 0, 0);
        }
        x.feed(0, 0, 0, 0, 0x00000008);
        Check.due("5 refused", x.feed(-1, -1, -1, -1, -1), NONE);
        Check.due("5 all played", x.play(2000), 2000);
        Check.due("5 the first byte", x.event(0, 1, 1), 1);
        Check.due("5 the second byte", x.event(0, 0, 1), 2);
        Check.due("5 two events of 0", x.of(0, 7), 2);
        Check.due("5 the last byte", x.event(1, 0, 1), 2000);
        Check.due("5 one event of 1", x.of(1, 7), 1);
    }

    /** "the highest of each first": each of the twenty places. */
    private static void feedHighestFirst() {
        for (int at = 0; at < 20; at++) {
            int[] words = new int[5];
            words[at / 4] = 0x29 << 24 - 8 * (at % 4);
            PulseWheel x = new PulseWheel();
            Check.due("5 twenty", x.feed(words[0], words[1], words[2], words[3], words[4]), 20);
            Check.due("5 ahead of byte " + at, x.play(at), at);
            Check.due("5 nothing ahead of it", x.of(0, 7) + x.of(1, 7), 0);
            x.feed(words[0], words[1], words[2], words[3], words[4]);
            Check.due("5 up to byte " + at, x.play(at + 1), at + 1);
            Check.due("5 lines of 0", x.of(0, 4), 1);
            Check.due("5 lines of 1", x.of(1, 4), 5);
            Check.due("5 in its tick", x.event(1, 0, 1), 2 * at + 1);
        }
    }

    /** "come behind those on the TAPE". */
    private static void feedBehindThoseThere() {
        PulseWheel x = new PulseWheel();
        x.feed(0, 0, 0, 0, 0x00000001);
        x.feed(0x03000000, 0, 0, 0, 0);
        Check.due("5 forty", x.play(40), 40);
        Check.due("5 the last of the first", x.event(0, 2, 1), 20);
        Check.due("5 the first of the second", x.event(0, 1, 1), 21);
        Check.due("5 both forward", x.event(0, 1, 2), 2);
        Check.due("5 then a fault", x.event(0, 0, 0), 0);
        x.feed(0x01000000, 0, 0, 0, 0);
        Check.due("5 behind none when it is empty", x.play(1), 1);
        Check.due("5 its first byte", x.event(0, 0, 1), 41);
    }

    /** A byte with its highest bit is a byte all the same, and comes alone. */
    private static void feedOfNegatives() {
        PulseWheel x = new PulseWheel();
        x.feed(0x3f3f3f80, -1, 0, 0, 0);
        Check.due("5 up to the byte 128", x.play(20), 3);
        x.feed(Integer.MIN_VALUE, 0, 0, 0, 0);
        Check.due("5 it is the first", x.play(20), 0);
        x.feed(-1, -1, -1, -1, -1);
        Check.due("5 all bits in all", x.play(20), 0);
        x.feed(0x00ff0000, 0, 0, 0, 0);
        Check.due("5 the second", x.play(20), 1);
        Check.due("5 ticks", x.about(0), 4);
    }

    private static void feedIsNoTick() {
        PulseWheel x = new PulseWheel();
        x.feed(0x3f3f3f3f, 0x3f3f3f3f, 0x3f3f3f3f, 0x3f3f3f3f, 0x3f3f3f3f);
        Check.due("5 no ticks", x.about(0), 0);
        Check.due("5 no lines", x.of(0, 4), 0);
    }

    /** "NONE, doing nothing, .. or n is below 0." */
    private static void playBelowNone() {
        PulseWheel x = new PulseWheel();
        for (int n : new int[] {-1, -20, Integer.MIN_VALUE}) {
            Check.due("6 empty: play(" + n + ")", x.play(n), NONE);
        }
        x.feed(0, 0, 0, 0, 0);
        for (int n : new int[] {-1, -20, Integer.MIN_VALUE}) {
            Check.due("6 play(" + n + ")", x.play(n), NONE);
        }
        Check.due("6 the tape has them all", x.about(1), 20);
    }

    /** "NONE, doing nothing, if the TAPE has not n". */
    private static void playMoreThanThere() {
        PulseWheel x = new PulseWheel();
        x.feed(0, 0, 0, 0, 0);
        for (int n : new int[] {21, 40, 2000, 2001, Integer.MAX_VALUE}) {
            Check.due("6 play(" + n + ")", x.play(n), NONE);
        }
        Check.due("6 the tape has them all", x.about(1), 20);
        Check.due("6 no ticks", x.about(0), 0);
        Check.due("6 as many as there are", x.play(20), 20);
    }

    private static void playOfAnEmptyTape() {
        PulseWheel x = new PulseWheel();
        Check.due("6 none of none", x.play(0), 0);
        Check.due("6 one of none", x.play(1), NONE);
        x.feed(0, 0, 0, 0, 0);
        x.play(20);
        Check.due("6 none behind", x.play(0), 0);
        Check.due("6 one behind", x.play(1), NONE);
        Check.due("6 ticks", x.about(0), 20);
    }

    private static void playRefusedDoesNothing() {
        Twins.dueNothingDone("6 play refused", x -> {
            x.play(-1);
            x.play(21);
            x.play(2000);
            x.play(Integer.MIN_VALUE);
            x.play(Integer.MAX_VALUE);
        });
    }

    /** "The first n bytes of the TAPE (empty then)": whatever n. */
    private static void playNoneEmptiesTheTape() {
        PulseWheel x = new PulseWheel();
        x.feed(0x01010101, 0, 0, 0, 0);
        Check.due("6 none", x.play(0), 0);
        Check.due("6 empty then", x.about(1), 0);
        Check.due("6 no ticks", x.about(0), 0);
        Check.due("6 nothing left", x.play(1), NONE);
    }

    /** "(empty then)": what is behind the first n is gone. */
    private static void playSomeEmptiesTheTape() {
        PulseWheel x = new PulseWheel();
        x.feed(0x00010000, 0, 0, 0, 0);
        Check.due("6 one", x.play(1), 1);
        Check.due("6 empty then", x.about(1), 0);
        Check.due("6 nothing left", x.play(1), NONE);
        Check.due("6 twenty new ones", x.feed(0, 0, 0, 0, 0), 20);
        Check.due("6 played", x.play(20), 20);
        Check.due("6 nothing of the old ones", x.of(0, 7), 0);
    }

    private static void playAllOfAFullTape() {
        PulseWheel x = new PulseWheel();
        for (int i = 0; i < 100; i++) {
            x.feed(0x01030200, 0x01030200, 0x01030200, 0x01030200, 0x01030200);
        }
        Check.due("6 all", x.play(2000), 2000);
        Check.due("6 place", x.of(0, 0), 2000);
        Check.due("6 events in all", x.of(0, 7), 2000);
        Check.due("6 ticks", x.about(0), 2000);
        Check.due("6 empty then", x.about(1), 0);
    }

    /** "bits of READER 0 are 1, 2, 4, of READER 1 8, 16, 32": each byte that is a tick. */
    private static void playBitsOfBothReaders() {
        PulseWheel x = new PulseWheel();
        for (int b = 0; b < 64; b++) {
            x.feed(b << 24, 0, 0, 0, 0);
            Check.due("6 byte " + b, x.play(1), 1);
            Check.due("6 lines of 0 by " + b, x.of(0, 4), b % 8);
            Check.due("6 lines of 1 by " + b, x.of(1, 4), b / 8);
        }
    }

    /** "it ends ahead of a byte with 64 or 128": every such byte. */
    private static void playEndsAheadOfAStop() {
        PulseWheel x = new PulseWheel();
        for (int b = 64; b < 256; b++) {
            x.feed(b, 0, 0, 0, 0);
            Check.due("6 ahead of " + b, x.play(20), 3);
        }
        Check.due("6 empty then", x.about(1), 0);
        Check.due("6 ticks", x.about(0), 3 * 192);
        Check.due("6 nothing of these bytes", x.of(0, 7) + x.of(1, 7) + x.of(0, 10) + x.of(1, 10), 0);
    }

    private static void playEndsAheadOfAStopAtEachPlace() {
        PulseWheel x = new PulseWheel();
        int ticks = 0;
        for (int at = 0; at < 20; at++) {
            int[] words = new int[5];
            words[at / 4] = (at % 2 == 0 ? 64 : 128) << 24 - 8 * (at % 4);
            x.feed(words[0], words[1], words[2], words[3], words[4]);
            Check.due("6 ahead of place " + at, x.play(20), at);
            ticks += at;
            Check.due("6 ticks", x.about(0), ticks);
            Check.due("6 the rest is gone", x.about(1), 0);
        }
    }

    private static void playDoesNotSeeAStopBehind() {
        PulseWheel x = new PulseWheel();
        x.feed(0x00000040, -1, -1, -1, -1);
        Check.due("6 the stop is behind the three", x.play(3), 3);
        x.feed(0x00000040, -1, -1, -1, -1);
        Check.due("6 the stop is the fourth", x.play(4), 3);
    }

    /** "or at 1000000 TICKS": just so many. */
    private static void playUpToAMillion() {
        PulseWheel x = after(MILLION - 20);
        x.feed(0, 0, 0, 0, 1);
        Check.due("6 all twenty", x.play(20), 20);
        Check.due("6 a million", x.about(0), MILLION);
        Check.due("6 the last byte is in the last tick", x.event(0, 0, 1), MILLION);
    }

    /** "it ends .. at 1000000 TICKS: how many". */
    private static void playBeyondAMillion() {
        PulseWheel x = after(MILLION - 19);
        x.feed(0, 0, 0, 0, 1);
        Check.due("6 one too many", x.play(20), 19);
        Check.due("6 a million", x.about(0), MILLION);
        Check.due("6 nothing of the last byte", x.of(0, 7), 0);
        Check.due("6 empty then", x.about(1), 0);
    }

    private static void playAtAMillion() {
        PulseWheel x = after(MILLION);
        x.feed(0x3f3f3f3f, 0, 0, 0, 0);
        Check.due("6 the tape has not so many", x.play(21), NONE);
        Check.due("6 nothing done", x.about(1), 20);
        Check.due("6 none", x.play(20), 0);
        Check.due("6 empty all the same", x.about(1), 0);
        Check.due("6 no line changed", x.of(0, 4) + x.of(1, 4), 0);
        Check.due("6 a million", x.about(0), MILLION);
    }

    /** "NONE for another what." */
    private static void aboutNoSuchWhat() {
        PulseWheel x = new PulseWheel();
        Twins.busy(x);
        for (int no : new int[] {-1, -3, 3, 4, Integer.MIN_VALUE, Integer.MAX_VALUE}) {
            Check.due("19 about(" + no + ")", x.about(no), NONE);
        }
    }

    private static void aboutTicks() {
        PulseWheel x = new PulseWheel();
        Check.due("19 none", x.about(0), 0);
        x.tick(1, 0, 0);
        Check.due("19 one", x.about(0), 1);
        x.feed(0, 0, 0, 0, 0);
        x.play(7);
        Check.due("19 those played, too", x.about(0), 8);
    }

    private static void aboutTape() {
        PulseWheel x = new PulseWheel();
        Check.due("19 empty", x.about(1), 0);
        x.feed(0, 0, 0, 0, 0);
        Check.due("19 twenty", x.about(1), 20);
        x.play(21);
        Check.due("19 a refused play leaves them", x.about(1), 20);
        x.play(1);
        Check.due("19 empty again", x.about(1), 0);
    }

    /** "images, as bits": each alone, and all. */
    private static void aboutImages() {
        for (int k = 0; k < 4; k++) {
            PulseWheel x = new PulseWheel();
            Check.due("19 no images", x.about(2), 0);
            x.keep(k);
            Check.due("19 image " + k, x.about(2), 1 << k);
            x.keep(k);
            Check.due("19 once more", x.about(2), 1 << k);
            for (int other = 0; other < 4; other++) {
                x.keep(other);
            }
            Check.due("19 all", x.about(2), 15);
        }
    }
}
