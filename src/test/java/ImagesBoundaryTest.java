/** The edges of images, and of how long an object is used: promises 17 and 18, a test for each. */
public final class ImagesBoundaryTest {
    private static final int NONE = PulseWheel.NONE;
    private static final int NO_VALUE = -2000000;
    private static final int[] NO_IMAGES = {-1, -4, 4, 5, 32, Integer.MIN_VALUE, Integer.MAX_VALUE};

    private ImagesBoundaryTest() {
    }

    public static void main(String[] args) {
        keepNoSuchImage();
        keepEachImage();
        keepRefusedDoesNothing();
        keepOverAnOlderOne();
        keepIsNotChangedByWhatComes();
        keepHasNotTheTape();
        keepHasNotTheImages();
        keepOfANewObject();
        backNoSuchImage();
        backWithNothingKept();
        backRefusedDoesNothing();
        backAgainAndAgain();
        backToEachImage();
        backToAllAsItWas();
        backToLinesHalfHeld();
        backToEventsBehindAWrap();
        backToTheWayMoved();
        backToTeethAndZeros();
        backToHoldAndTurn();
        backToApart();
        backFromAMillionTicks();
        backToAMillionTicks();
        imagesAreOfOneObject();
        lastOfAllCalls();
        Check.end();
    }

    /** "as image k (0 .. 3): .. false if there is none such." */
    private static void keepNoSuchImage() {
        PulseWheel x = new PulseWheel();
        for (int k : NO_IMAGES) {
            Check.due("17 keep(" + k + ")", x.keep(k), false);
        }
        Check.due("17 no images", x.about(2), 0);
    }

    private static void keepEachImage() {
        PulseWheel x = new PulseWheel();
        for (int k = 0; k < 4; k++) {
            Check.due("17 keep(" + k + ")", x.keep(k), true);
            Check.due("17 images", x.about(2), (2 << k) - 1);
        }
    }

    private static void keepRefusedDoesNothing() {
        Twins.dueNothingDone("17 keep refused", x -> {
            for (int k : NO_IMAGES) {
                x.keep(k);
            }
        });
    }

    private static void keepOverAnOlderOne() {
        Hand hand = new Hand();
        hand.move(0, 3);
        hand.wheel.keep(2);
        hand.move(0, 4);
        Check.due("17 kept again", hand.wheel.keep(2), true);
        hand.move(0, 5);
        hand.wheel.back(2);
        Check.due("17 the newer one", hand.wheel.of(0, 0), 7);
        Check.due("17 its ticks", hand.wheel.about(0), 7);
        hand.wheel.hold(0, 1);
        hand.wheel.keep(2);
        hand.move(0, 1);
        hand.wheel.back(2);
        Check.due("17 nothing of the older one", hand.wheel.of(0, 7), 0);
        Check.due("17 nor its events", hand.wheel.event(0, 0, 1), NO_VALUE);
    }

    private static void keepIsNotChangedByWhatComes() {
        for (int reader = 0; reader < 2; reader++) {
            Hand hand = new Hand();
            hand.turn(reader, 4);
            hand.moveMarked(reader, 1);
            hand.moveMarked(reader, 4);
            hand.wheel.keep(0);
            hand.move(reader, 500);
            hand.fault(reader);
            hand.turn(reader, 9);
            hand.hold(1 - reader, 9);
            hand.wheel.back(0);
            Check.due("17 place", hand.wheel.of(reader, 0), 5);
            Check.due("17 low", hand.wheel.of(reader, 1), 5);
            Check.due("17 turn", hand.wheel.of(reader, 6), 4);
            Check.due("17 hold", hand.wheel.of(1 - reader, 5), 1);
            Check.due("17 faults", hand.wheel.of(reader, 8), 0);
            Check.due("17 first event", hand.wheel.event(reader, 4, 1), 1);
            Check.due("17 none older", hand.wheel.event(reader, 5, 1), NO_VALUE);
            Check.due("17 row", hand.wheel.row(reader), 5);
            Check.due("17 moved", hand.wheel.moved(reader, 5), 5);
            Check.due("17 wholes", hand.wheel.wholes(reader), 1);
            Check.due("17 origin", hand.wheel.origin(reader), 1);
        }
    }

    /** "All (but the TAPE": it is neither kept nor brought back. */
    private static void keepHasNotTheTape() {
        PulseWheel x = new PulseWheel();
        x.feed(0x01000000, 0, 0, 0, 0);
        x.keep(0);
        Check.due("17 keep leaves it", x.about(1), 20);
        x.play(20);
        x.back(0);
        Check.due("18 an empty one stays empty", x.about(1), 0);
        Check.due("18 nothing to play", x.play(1), NONE);
        x.feed(0x03000000, 0, 0, 0, 0);
        x.feed(0, 0, 0, 0, 0);
        x.back(0);
        Check.due("18 forty stay forty", x.about(1), 40);
        Check.due("18 one of them", x.play(1), 1);
        Check.due("18 it is the newer one", x.of(0, 4), 3);
    }

    /** "(but .. the images)". */
    private static void keepHasNotTheImages() {
        Hand hand = new Hand();
        hand.wheel.keep(0);
        hand.move(0, 1);
        hand.wheel.keep(3);
        Check.due("18 back", hand.wheel.back(0), true);
        Check.due("18 the later image is there still", hand.wheel.about(2), 9);
        Check.due("18 and has its own", hand.wheel.back(3), true);
        Check.due("18 its place", hand.wheel.of(0, 0), 1);
    }

    private static void keepOfANewObject() {
        Hand hand = new Hand();
        hand.wheel.keep(1);
        hand.zeroOfBoth();
        hand.move(0, 9);
        hand.wheel.back(1);
        Check.due("18 no ticks", hand.wheel.about(0), 0);
        Check.due("18 not one tick ago", hand.wheel.moved(0, 1), NO_VALUE);
        Check.due("18 no events", hand.wheel.of(0, 7), 0);
        Check.due("18 no origin", hand.wheel.origin(0), NO_VALUE);
        Check.due("18 they agree", hand.wheel.apart(), NONE);
    }

    /** "false, doing nothing, if nothing was kept there.": there is no such image. */
    private static void backNoSuchImage() {
        PulseWheel x = new PulseWheel();
        for (int k = 0; k < 4; k++) {
            x.keep(k);
        }
        x.tick(1, 1, 0);
        for (int k : NO_IMAGES) {
            Check.due("18 back(" + k + ")", x.back(k), false);
        }
        Check.due("18 nothing done", x.about(0), 1);
    }

    /** "false, doing nothing, if nothing was kept there.": not there, but in the others. */
    private static void backWithNothingKept() {
        for (int k = 0; k < 4; k++) {
            PulseWheel x = new PulseWheel();
            Check.due("18 nothing in " + k, x.back(k), false);
            for (int other = 0; other < 4; other++) {
                if (other != k) {
                    x.keep(other);
                }
            }
            x.tick(1, 1, 0);
            Check.due("18 nothing in " + k + " still", x.back(k), false);
            Check.due("18 nothing done", x.about(0), 1);
            Check.due("18 no image by that", x.about(2), 15 - (1 << k));
            x.keep(k);
            Check.due("18 now there is", x.back(k), true);
        }
    }

    private static void backRefusedDoesNothing() {
        Twins.dueNothingDone("18 back refused", x -> {
            for (int k : NO_IMAGES) {
                x.back(k);
            }
            x.back(0);
            x.back(2);
            x.back(3);
        });
    }

    private static void backAgainAndAgain() {
        Hand hand = new Hand();
        hand.move(0, 4);
        hand.wheel.keep(0);
        for (int i = 0; i < 5; i++) {
            hand.move(0, 4);
            Check.due("18 on", hand.wheel.of(0, 0), 8);
            Check.due("18 back", hand.wheel.back(0), true);
            Check.due("18 place", hand.wheel.of(0, 0), 4);
            Check.due("18 ticks", hand.wheel.about(0), 4);
        }
        Check.due("18 twice", hand.wheel.back(0), true);
        Check.due("18 the same", hand.wheel.of(0, 0), 4);
    }

    private static void backToEachImage() {
        Hand hand = new Hand();
        for (int k = 0; k < 4; k++) {
            hand.move(0, 1);
            hand.move(1, -1);
            hand.wheel.keep(k);
        }
        for (int k = 3; k >= 0; k--) {
            hand.wheel.back(k);
            Check.due("18 place of 0 in " + k, hand.wheel.of(0, 0), k + 1);
            Check.due("18 place of 1 in " + k, hand.wheel.of(1, 0), -k - 1);
            Check.due("18 ticks in " + k, hand.wheel.about(0), 2 * k + 2);
        }
    }

    /** "All is as image k has it", whatever came between. */
    private static void backToAllAsItWas() {
        Twins.Calls busyAndKept = x -> {
            Twins.busy(x);
            x.keep(3);
        };
        Twins.Calls newAndKept = x -> x.keep(3);
        Twins.Calls anewAndBack = x -> {
            for (int reader = 0; reader < 2; reader++) {
                x.hold(reader, 5);
                x.turn(reader, 9);
            }
            x.tick(9, 0, 0);
            x.back(3);
        };
        Twins.Calls onAndBack = x -> {
            for (int i = 0; i < 40; i++) {
                x.tick(3, i % 8, i * 5 % 8);
            }
            x.back(3);
        };
        Twins.dueAsBefore("18 busy, back from anew", busyAndKept, anewAndBack);
        Twins.dueAsBefore("18 busy, back from later", busyAndKept, onAndBack);
        Twins.dueAsBefore("18 new, back from anew", newAndKept, anewAndBack);
        Twins.dueAsBefore("18 new, back from later", newAndKept, onAndBack);
    }

    /** "All is as image k has it": the ticks that a line has been the other one, too. */
    private static void backToLinesHalfHeld() {
        PulseWheel x = new PulseWheel();
        x.hold(0, 16);
        x.hold(1, 16);
        x.tick(15, 7, 7);
        x.keep(0);
        x.tick(9, 0, 0);
        x.back(0);
        x.tick(1, 7, 7);
        Check.due("18 the sixteenth, reader 0", x.of(0, 4), 7);
        Check.due("18 the sixteenth, reader 1", x.of(1, 4), 7);
        x.back(0);
        x.tick(1, 0, 0);
        x.tick(15, 7, 7);
        Check.due("18 a bounce", x.of(0, 4), 0);
    }

    private static void backToEventsBehindAWrap() {
        for (int reader = 0; reader < 2; reader++) {
            Hand hand = new Hand();
            hand.move(reader, 450);
            hand.wheel.keep(3);
            hand.move(reader, -450);
            hand.wheel.back(3);
            for (int k = 0; k < 300; k++) {
                Check.due("18 tick of event " + k, hand.wheel.event(reader, k, 1), 450 - k);
            }
            Check.due("18 none older", hand.wheel.event(reader, 300, 1), NO_VALUE);
            Check.due("18 row", hand.wheel.row(reader), 300);
            Check.due("18 events in all", hand.wheel.of(reader, 7), 450);
            Check.due("18 sort", hand.wheel.event(reader, 0, 0), 1);
            Check.due("18 place", hand.wheel.event(reader, 299, 2), 151);
            Check.due("18 period", hand.wheel.period(reader, 30, 0), 29);
        }
    }

    private static void backToTheWayMoved() {
        for (int reader = 0; reader < 2; reader++) {
            Hand hand = new Hand();
            hand.move(reader, 700);
            hand.wheel.keep(0);
            hand.move(reader, -333);
            hand.wheel.back(0);
            for (int n = 1; n <= 500; n += 7) {
                Check.due("18 moved(" + reader + ", " + n + ")", hand.wheel.moved(reader, n), n);
            }
            Check.due("18 moved 500", hand.wheel.moved(reader, 500), 500);
            hand.turn(reader, 5);
            hand.wheel.back(0);
            Check.due("18 began where it did", hand.wheel.moved(reader, 500), 500);
        }
    }

    private static void backToTeethAndZeros() {
        Hand hand = new Hand();
        hand.turn(0, 4);
        hand.moveMarked(0, 1);
        hand.move(0, 2);
        hand.wheel.keep(0);
        hand.move(0, 1);
        hand.moveMarked(0, 1);
        Check.due("18 a whole turn", hand.wheel.wholes(0), 1);
        hand.wheel.back(0);
        Check.due("18 none yet", hand.wheel.wholes(0), 0);
        Check.due("18 no tooth has anything", hand.wheel.tooth(0, 0), 0);
        hand.wheel.tick(1, 0, 0);
        hand.wheel.tick(1, 5, 0);
        Check.due("18 the zero ahead is kept", hand.wheel.wholes(0), 1);
        Check.due("18 zeros", hand.wheel.of(0, 10), 2);
        hand.wheel.keep(1);
        hand.wheel.turn(0, 4);
        hand.wheel.back(1);
        Check.due("18 wholes", hand.wheel.wholes(0), 1);
        Check.due("18 teeth", hand.wheel.tooth(0, 3), 1);
        Check.due("18 widest", hand.wheel.widest(0), 0);
    }

    private static void backToHoldAndTurn() {
        PulseWheel x = new PulseWheel();
        x.hold(0, 2);
        x.hold(1, 3);
        x.turn(0, 5);
        x.turn(1, 6);
        x.keep(0);
        x.hold(0, 16);
        x.hold(1, 16);
        x.turn(0, 64);
        x.turn(1, 64);
        x.back(0);
        Check.due("18 hold of 0", x.of(0, 5), 2);
        Check.due("18 hold of 1", x.of(1, 5), 3);
        Check.due("18 turn of 0", x.of(0, 6), 5);
        Check.due("18 turn of 1", x.of(1, 6), 6);
        Check.due("18 teeth of 0", x.tooth(0, 5), NONE);
    }

    private static void backToApart() {
        Hand hand = new Hand();
        hand.zeroOfBoth();
        hand.wheel.keep(0);
        hand.move(0, 3);
        hand.wheel.keep(1);
        hand.rest(9);
        hand.wheel.back(0);
        Check.due("18 they agree", hand.wheel.apart(), NONE);
        hand.wheel.back(1);
        Check.due("18 apart", hand.wheel.apart(), 4);
        hand.rest(1);
        Check.due("18 apart still", hand.wheel.apart(), 4);
    }

    private static void backFromAMillionTicks() {
        PulseWheel x = new PulseWheel();
        x.tick(1, 1, 0);
        x.keep(0);
        for (int i = 0; i < 499; i++) {
            x.tick(2000, 1, 0);
        }
        x.tick(1999, 1, 0);
        Check.due("18 no more ticks", x.tick(1, 0, 0), NONE);
        Check.due("18 back", x.back(0), true);
        Check.due("18 one tick", x.about(0), 1);
        Check.due("18 there is room again", x.tick(2000, 3, 0), 2000);
        Check.due("18 numbered from there", x.event(0, 0, 1), 2);
    }

    private static void backToAMillionTicks() {
        PulseWheel x = new PulseWheel();
        x.keep(1);
        for (int i = 0; i < 500; i++) {
            x.tick(2000, 0, 0);
        }
        x.keep(0);
        x.back(1);
        Check.due("18 no ticks", x.about(0), 0);
        x.back(0);
        Check.due("18 a million", x.about(0), 1000000);
        Check.due("18 no more ticks", x.tick(1, 0, 0), NONE);
        x.feed(0, 0, 0, 0, 0);
        Check.due("18 none by the tape", x.play(20), 0);
    }

    private static void imagesAreOfOneObject() {
        PulseWheel x = new PulseWheel();
        x.keep(0);
        PulseWheel y = new PulseWheel();
        Check.due("17 none of another", y.about(2), 0);
        Check.due("18 nothing kept there", y.back(0), false);
    }

    /** "An object is used for at most 512 calls": the last of them is answered like any other. */
    private static void lastOfAllCalls() {
        int[] bits = {0, 1, 3, 2};
        PulseWheel x = new PulseWheel();
        for (int i = 1; i <= 128; i++) {
            x.tick(1, bits[i % 4], 0);
            x.keep(i % 4);
            x.back(i % 4);
            int got = x.period(0, 2, 3);
            Check.due("call " + 4 * i, got, i == 1 ? NONE : 1);
        }
        PulseWheel y = new PulseWheel();
        for (int i = 1; i <= 511; i++) {
            y.tick(i % 2 == 0 ? 1 : 2, bits[i % 4], 0);
        }
        // The 212th of 511 events: 106 calls of two ticks and 105 of one stand ahead of it.
        Check.due("call 512", y.event(0, 299, 1), 318);
    }
}
