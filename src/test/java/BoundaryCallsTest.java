/** The promises' boundaries, call by call: each method tests the sentence that stands above it. */
final class BoundaryCallsTest {
    private static final int LEAST = Integer.MIN_VALUE;
    private static final int MOST = Integer.MAX_VALUE;
    private static final String FILL = Frames.unit(127, 1, 127, 1);
    private static final String BEGINNING = Promise01NewObjectTest.BEGINNING;

    public static void main(String[] args) {
        putLength();
        putSeed();
        putWhile60Wait();
        putBytes();
        sendOnto40();
        sendLessThan127();
        sendKinds();
        takeWithoutFrames();
        takeLess10();
        flipFirstAndLastBit();
        flipFirstAndLastFrame();
        dropFirstAndLastFrame();
        dropEmptiesTheLine();
        bitsN();
        bitsFreshOrWithoutAny();
        bits40Frames();
        bits3000();
        bits3000BehindWhatWasSent();
        bitNoneBehind();
        bitNoSuchFrame();
        takenNoneBehind();
        takenThereWasNone();
        takenNoneOfTheLatest50();
        takenFromZeroOnInAll();
        checkN();
        aboutWhat();
        restartAsAtFirst();
        restartEmptiesItsLineAlone();
        restartKeepsWhatItTook();
        restartOfFullAndFailedEnds();
        restartOfANewEnd();
        Due.finish();
    }

    /** put: "if length is not 1 .. 272" */
    private static void putLength() {
        LinkPair x = new LinkPair();
        for (int length : new int[] {LEAST, -272, -1, 0, 273, 274, 512, 65537, MOST}) {
            Due.badArgument("length " + length, () -> x.put(0, length, 0));
            Due.badArgument("length " + length, () -> x.put(1, length, 255));
        }
        Due.same("nothing waits", Due.facts(x, 0), BEGINNING);
        int waiting = 0;
        for (int length : new int[] {1, 2, 62, 63, 64, 255, 256, 271, 272}) {
            waiting++;
            Due.is("length " + length, x.put(0, length, 0), waiting);
        }
    }

    /** put: "seed not 0 .. 255" */
    private static void putSeed() {
        LinkPair x = new LinkPair();
        for (int seed : new int[] {LEAST, -256, -255, -1, 256, 257, 511, 512, 65536, MOST}) {
            Due.badArgument("seed " + seed, () -> x.put(0, 1, seed));
            Due.badArgument("seed " + seed, () -> x.put(1, 272, seed));
        }
        Due.same("nothing waits", Due.facts(x, 1), BEGINNING);
        int waiting = 0;
        for (int seed : new int[] {0, 1, 127, 128, 254, 255}) {
            x.put(1, 1, seed);
            x.send(1);
            x.take(0);
            Due.is("byte 0 of seed " + seed, x.taken(0, waiting, 0), seed);
            waiting++;
        }
    }

    /** put: "60 wait, or the end has FAILED" */
    private static void putWhile60Wait() {
        LinkPair x = new LinkPair();
        for (int i = 1; i <= 59; i++) {
            x.put(0, 1, i);
        }
        Due.is("the 60th", x.put(0, 272, 60), 60);
        Due.badState("the 61st", () -> x.put(0, 1, 0));
        Due.badState("the 61st", () -> x.put(0, 1, 0));
        Due.is("wait", x.about(0, 4), 60);
        x.send(0);
        Due.is("one was sent", x.put(0, 1, 0), 60);
        Due.badState("the 61st", () -> x.put(0, 1, 0));
        LinkPair y = new LinkPair();
        y.put(0, 1, 1);
        Frames.makeFail(y, 0);
        Due.badState("failed", () -> y.put(0, 1, 1));
        Due.is("wait", y.about(0, 4), 1);
        y.restart(0);
        Due.is("begun anew", y.put(0, 1, 1), 1);
    }

    /** put: "byte i of it is (seed + 37 i + i / 8) modulo 256" */
    private static void putBytes() {
        LinkPair x = new LinkPair();
        x.put(0, 272, 255);
        x.send(0);
        x.take(1);
        int[][] due = {{0, 255}, {1, 36}, {6, 221}, {7, 2}, {8, 40}, {9, 77}, {15, 43}, {16, 81}, {255, 249}, {256, 31}, {271, 75}};
        for (int[] d : due) {
            Due.is("byte " + d[0], x.taken(1, 0, d[0]), d[1]);
        }
    }

    /** send: "its line has 40 frames, or it has FAILED" */
    private static void sendOnto40() {
        LinkPair x = new LinkPair();
        for (int i = 0; i < 39; i++) {
            x.bits(1, 0, 1, true);
        }
        x.put(1, 1, 1);
        x.put(1, 1, 2);
        Due.is("the 40th", x.send(1), 1);
        Due.badState("the 41st", () -> x.send(1));
        Due.same("nothing was sent", Due.facts(x, 1), "1 1 0 127 1 1 0 0 40 0 0 0");
        x.take(0);
        Due.is("one was taken", x.send(1), 1);
        Due.badState("the 41st", () -> x.send(1));
        x.drop(1, 20);
        Due.is("one was lost", x.send(1), 0);
        Due.badState("the 41st", () -> x.send(1));
        Due.is("the other end", x.send(0), 0);
    }

    /** send: what goes again does not wait for room among the 127. */
    private static void sendLessThan127() {
        LinkPair x = new LinkPair();
        for (int i = 0; i < 126; i++) {
            x.put(0, 1, i);
            x.send(0);
            x.drop(0, 0);
        }
        x.put(0, 1, 126);
        x.put(0, 1, 127);
        Due.is("126 are not told", x.send(0), 1);
        Due.is("127 are not told", x.send(0), 0);
        Due.is("wait", x.about(0, 4), 1);
        Frames.layAndTake(x, 1, Frames.unit(127, 0, 127, 1));
        Due.is("go again", x.about(0, 6), 127);
        Due.is("again", x.send(0), 2);
        Due.is("go again", x.about(0, 6), 126);
        Frames.layAndTake(x, 1, Frames.unit(125, 0, 127, 1));
        Due.is("one goes again", x.about(0, 6), 1);
        Due.is("again", x.send(0), 2);
        Due.is("then the one that waits", x.send(0), 1);
        Due.is("then a fill", x.send(0), 0);
    }

    /** send: "0 a fill, 1 a message, 2 a message again" */
    private static void sendKinds() {
        LinkPair x = new LinkPair();
        Due.is("nothing waits", x.send(0), 0);
        x.put(0, 1, 7);
        Due.is("one waits", x.send(0), 1);
        Due.is("none waits", x.send(0), 0);
        x.put(0, 1, 8);
        Frames.layAndTake(x, 1, Frames.unit(127, 0, 127, 1));
        Due.is("one goes again before the one that waits", x.send(0), 2);
        Due.is("the one that waits", x.send(0), 1);
        Frames.layAndTake(x, 1, Frames.unit(1, 1, 127, 1));
        Due.is("FIB turned, none is left", x.about(0, 0), 1);
        Due.is("none goes again", x.send(0), 0);
    }

    /** take: "no frame is there, or it has FAILED" */
    private static void takeWithoutFrames() {
        LinkPair x = new LinkPair();
        Due.badState("new", () -> x.take(0));
        Due.badState("new", () -> x.take(1));
        x.send(0);
        Due.badState("its own frame", () -> x.take(0));
        Due.is("the frame", x.take(1), 0);
        Due.badState("none is left", () -> x.take(1));
        x.send(0);
        x.drop(0, 0);
        Due.badState("it was lost", () -> x.take(1));
        x.send(0);
        x.restart(0);
        Due.badState("the line was emptied", () -> x.take(1));
        Due.is("units", x.about(1, 10), 1);
        Due.is("units", x.about(0, 10), 0);
        Frames.makeFail(x, 1);
        x.send(0);
        Due.badState("failed", () -> x.take(1));
        Due.is("the frame stays", x.about(0, 8), 1);
        x.restart(1);
        Due.is("begun anew", x.take(1), 0);
    }

    private static int answerOfThe64th(String frame) {
        LinkPair x = new LinkPair();
        for (int i = 0; i < 63; i++) {
            x.bits(0, 0, 1, true);
            x.take(1);
        }
        return Frames.layAndTake(x, 0, frame);
    }

    /** take: "or a FAULT, below 0; less 10 if it FAILED by that" */
    private static void takeLess10() {
        String faulty4 = Frames.FLAG + "0".repeat(40) + Frames.FLAG;
        String faulty5 = Frames.frameOf(Frames.checked(Frames.head(127, 1, 127, 1, 1)));
        Due.is("fault 1", answerOfThe64th("0"), -11);
        Due.is("fault 2", answerOfThe64th(Frames.FLAG + "111111" + Frames.FLAG), -12);
        Due.is("fault 3", answerOfThe64th(Frames.FLAG + Frames.FLAG), -13);
        Due.is("fault 4", answerOfThe64th(faulty4), -14);
        Due.is("fault 5", answerOfThe64th(faulty5), -15);
        Due.is("no fault", answerOfThe64th(FILL), 0);
        Due.is("a message", answerOfThe64th(Frames.unit(127, 1, 0, 1, 1)), 1);
        Due.is("a gap", answerOfThe64th(Frames.unit(127, 1, 1, 1, 1)), 2);
        Due.is("abnormal", answerOfThe64th(Frames.unit(1, 1, 0, 1, 1)), 3);
    }

    /** flip: there is no such bit before the first one and behind the last one. */
    private static void flipFirstAndLastBit() {
        LinkPair x = new LinkPair();
        for (int i = 0; i < 46; i++) {
            x.bits(0, 0, 64, false);
        }
        Due.is("bits", x.bits(0, 0, 56, false), 3000);
        x.bits(0, 1, 1, true);
        for (int i : new int[] {0, 1, 63, 64, 2943, 2944, 2999}) {
            Due.is("bit " + i, x.flip(0, 0, i), 1);
            Due.is("bit " + i, x.bit(0, 0, i), 1);
            Due.is("bit " + i + " back", x.flip(0, 0, i), 0);
        }
        for (int i : new int[] {LEAST, -64, -1, 3000, 3001, 3007, 3008, MOST}) {
            Due.badArgument("bit " + i, () -> x.flip(0, 0, i));
        }
        Due.is("the only bit", x.flip(0, 1, 0), 0);
        Due.badArgument("behind the only bit", () -> x.flip(0, 1, 1));
        Due.badArgument("before the only bit", () -> x.flip(0, 1, -1));
    }

    /** flip: there is no such frame before the first one and behind the last one. */
    private static void flipFirstAndLastFrame() {
        LinkPair x = new LinkPair();
        Due.badArgument("without frames", () -> x.flip(1, 0, 0));
        for (int i = 1; i <= 40; i++) {
            x.bits(1, 0, 2, true);
            int behind = i;
            Due.is("the last of " + i, x.flip(1, i - 1, 1), 1);
            Due.badArgument("behind the last of " + i, () -> x.flip(1, behind, 1));
        }
        Due.is("the first", x.flip(1, 0, 0), 1);
        for (int frame : new int[] {LEAST, -40, -1, 40, 41, MOST}) {
            Due.badArgument("frame " + frame, () -> x.flip(1, frame, 0));
        }
        Due.badArgument("the other line", () -> x.flip(0, 0, 0));
        x.drop(1, 0);
        Due.badArgument("one was lost", () -> x.flip(1, 39, 0));
        Due.is("the last one", x.flip(1, 38, 1), 0);
    }

    /** drop: there is no such frame before the first one and behind the last one. */
    private static void dropFirstAndLastFrame() {
        LinkPair x = new LinkPair();
        for (int i = 1; i <= 40; i++) {
            x.bits(0, 0, i, true);
        }
        for (int frame : new int[] {LEAST, -40, -1, 40, 41, MOST}) {
            Due.badArgument("frame " + frame, () -> x.drop(0, frame));
        }
        Due.is("frames", x.about(0, 8), 40);
        Due.is("the last", x.drop(0, 39), 40);
        Due.badArgument("behind the last", () -> x.drop(0, 39));
        Due.is("the first", x.drop(0, 0), 1);
        Due.badArgument("behind the last", () -> x.drop(0, 38));
        Due.is("the last", x.drop(0, 37), 39);
        Due.is("the first", x.drop(0, 0), 2);
        Due.is("one between", x.drop(0, 17), 20);
        Due.is("the one behind it", x.drop(0, 17), 21);
        Due.is("the one before it", x.drop(0, 16), 19);
        Due.is("frames", x.about(0, 8), 33);
    }

    /** drop: "A frame of an end's line is lost", down to the last one */
    private static void dropEmptiesTheLine() {
        LinkPair x = new LinkPair();
        Due.badArgument("none", () -> x.drop(0, 0));
        x.put(0, 1, 1);
        x.send(0);
        x.send(1);
        Due.is("the only one", x.drop(0, 0), Frames.unit(127, 1, 0, 1, 1).length());
        Due.badArgument("none is left", () -> x.drop(0, 0));
        Due.is("frames", x.about(0, 8), 0);
        Due.is("frames of the other line", x.about(1, 8), 1);
        Due.is("what was sent is not told", x.about(0, 5), 1);
        Due.is("no unit came", x.about(1, 10), 0);
    }

    /** bits: "n is not 1 .. 64" */
    private static void bitsN() {
        LinkPair x = new LinkPair();
        for (int n : new int[] {LEAST, -64, -1, 0, 65, 128, MOST}) {
            Due.badArgument("fresh, n " + n, () -> x.bits(0, -1, n, true));
            Due.badArgument("n " + n, () -> x.bits(0, -1, n, false));
        }
        Due.is("frames", x.about(0, 8), 0);
        long w = 0x9234_5678_9ABC_DEF1L;
        for (int n = 1; n <= 64; n++) {
            Due.is("n " + n, x.bits(0, w, n, true), n);
            Due.is("its last bit", x.bit(0, 0, n - 1), w >>> n - 1 & 1);
            Due.is("behind it", x.bit(0, 0, n), LinkPair.NONE);
            Due.is("drop", x.drop(0, 0), n);
        }
    }

    /** bits: "behind the last frame of an end's line, or (fresh, or without any) as a new one" */
    private static void bitsFreshOrWithoutAny() {
        LinkPair x = new LinkPair();
        Due.is("without any, not fresh", x.bits(0, 0, 5, false), 5);
        Due.is("frames", x.about(0, 8), 1);
        Due.is("with one, not fresh", x.bits(0, 0, 5, false), 10);
        Due.is("frames", x.about(0, 8), 1);
        Due.is("with one, fresh", x.bits(0, 0, 5, true), 5);
        Due.is("frames", x.about(0, 8), 2);
        Due.is("behind the last, not the first", x.bits(0, 0, 1, false), 6);
        x.drop(0, 1);
        Due.is("behind the one that is last then", x.bits(0, 0, 1, false), 11);
        x.take(1);
        Due.is("without any again, not fresh", x.bits(0, 0, 5, false), 5);
        x.restart(0);
        Due.is("without any by restart, not fresh", x.bits(0, 0, 4, false), 4);
        Due.is("frames", x.about(0, 8), 1);
        Due.is("without any, fresh", x.bits(1, 0, 3, true), 3);
        Due.is("frames", x.about(1, 8), 1);
    }

    /** bits: "there are 40 frames for a fresh one" */
    private static void bits40Frames() {
        LinkPair x = new LinkPair();
        for (int i = 0; i < 39; i++) {
            x.send(0);
        }
        Due.is("the 40th", x.bits(0, 0, 64, true), 64);
        Due.badState("the 41st", () -> x.bits(0, 0, 1, true));
        Due.badState("the 41st", () -> x.bits(0, 0, 64, true));
        Due.is("behind the 40th", x.bits(0, 0, 64, false), 128);
        x.take(1);
        Due.is("one was taken", x.bits(0, 0, 1, true), 1);
        Due.badState("the 41st", () -> x.bits(0, 0, 1, true));
        x.drop(0, 39);
        Due.is("one was lost", x.bits(0, 0, 2, true), 2);
        Due.is("frames", x.about(0, 8), 40);
    }

    private static LinkPair withFrameOf(int bits) {
        LinkPair x = new LinkPair();
        for (int left = bits; left > 0; left -= 64) {
            x.bits(0, 0, Math.min(left, 64), false);
        }
        return x;
    }

    /** bits: "or it would have more than 3000 bits" */
    private static void bits3000() {
        for (int n : new int[] {1, 2, 56, 63, 64}) {
            LinkPair x = withFrameOf(3000 - n);
            Due.is("3000 by " + n, x.bits(0, -1, n, false), 3000);
            Due.badState("3001", () -> x.bits(0, 0, 1, false));
            Due.badState("3064", () -> x.bits(0, 0, 64, false));
            Due.is("the last bit", x.bit(0, 0, 2999), 1);
            Due.is("behind it", x.bit(0, 0, 3000), LinkPair.NONE);
            Due.is("a fresh one", x.bits(0, 0, 64, true), 64);
            Due.is("behind the fresh one", x.bits(0, 0, 64, false), 128);
            LinkPair y = withFrameOf(3001 - n);
            Due.badState("3001 by " + n, () -> y.bits(0, -1, n, false));
            Due.is("nothing came", y.bit(0, 0, 3001 - n), LinkPair.NONE);
            Due.is("bits", y.drop(0, 0), 3001 - n);
        }
        LinkPair z = withFrameOf(3000);
        Due.is("take of 3000 bits", z.take(1), -1);
    }

    private static void bits3000BehindWhatWasSent() {
        LinkPair x = new LinkPair();
        x.put(0, 272, 7);
        x.send(0);
        int length = Frames.unit(127, 1, 0, 1, Frames.body(272, 7)).length();
        int left = 3000 - length;
        while (left > 64) {
            x.bits(0, 0, 64, false);
            left -= 64;
        }
        int more = left + 1;
        Due.badState("3001", () -> x.bits(0, 0, more, false));
        Due.is("3000", x.bits(0, 0, left, false), 3000);
        Due.badState("3001", () -> x.bits(0, 0, 1, false));
    }

    /** bit: "NONE behind it" */
    private static void bitNoneBehind() {
        LinkPair x = withFrameOf(3000);
        x.bits(0, 1, 1, true);
        x.send(0);
        for (int i : new int[] {3000, 3001, 3007, 3008, 4000, MOST}) {
            Due.is("bit " + i + " of 3000", x.bit(0, 0, i), LinkPair.NONE);
        }
        Due.is("the last of 3000", x.bit(0, 0, 2999), 0);
        Due.is("the only one", x.bit(0, 1, 0), 1);
        for (int i : new int[] {1, 2, 63, 64, 3000, MOST}) {
            Due.is("bit " + i + " of 1", x.bit(0, 1, i), LinkPair.NONE);
        }
        Due.is("the last of a fill", x.bit(0, 2, FILL.length() - 1), 0);
        Due.is("the one before that", x.bit(0, 2, FILL.length() - 2), 1);
        Due.is("behind a fill", x.bit(0, 2, FILL.length()), LinkPair.NONE);
    }

    /** bit: "IllegalArgumentException: no such end or frame." */
    private static void bitNoSuchFrame() {
        LinkPair x = new LinkPair();
        Due.badArgument("without frames", () -> x.bit(0, 0, 0));
        Due.badArgument("without frames, far behind", () -> x.bit(0, 0, 3000));
        for (int i = 0; i < 40; i++) {
            x.send(0);
        }
        for (int frame : new int[] {LEAST, -40, -1, 40, 41, MOST}) {
            Due.badArgument("frame " + frame, () -> x.bit(0, frame, 0));
        }
        for (int end : new int[] {LEAST, -1, 2, MOST}) {
            Due.badArgument("end " + end, () -> x.bit(end, 0, 0));
            Due.badArgument("end " + end + ", far behind", () -> x.bit(end, 0, 3000));
        }
        Due.is("the last frame", x.bit(0, 39, 1), 1);
        Due.is("the first frame", x.bit(0, 0, 1), 1);
        Due.badArgument("the other line", () -> x.bit(1, 0, 0));
        x.take(1);
        Due.badArgument("one was taken", () -> x.bit(0, 39, 0));
    }

    /** taken: "NONE behind it" */
    private static void takenNoneBehind() {
        LinkPair x = new LinkPair();
        int[] lengths = {1, 2, 63, 64, 271, 272};
        for (int k = 0; k < lengths.length; k++) {
            x.put(0, lengths[k], 0);
            x.send(0);
            x.take(1);
        }
        for (int k = 0; k < lengths.length; k++) {
            int length = lengths[k];
            Due.is("the last of " + length, x.taken(1, k, length - 1), (37 * (length - 1) + (length - 1) / 8) % 256);
            for (int i : new int[] {length, length + 1, 272, 273, 13600, MOST}) {
                Due.is("byte " + i + " of " + length, x.taken(1, k, i), LinkPair.NONE);
            }
        }
    }

    /** taken: "there was none" */
    private static void takenThereWasNone() {
        LinkPair x = new LinkPair();
        Due.badArgument("new", () -> x.taken(0, 0, 0));
        x.put(0, 1, 5);
        Due.badArgument("it waits", () -> x.taken(1, 0, 0));
        x.send(0);
        Due.badArgument("it was sent", () -> x.taken(1, 0, 0));
        x.flip(0, 0, 30);
        Due.is("it is faulty", x.take(1), -4);
        Due.badArgument("it was faulty", () -> x.taken(1, 0, 0));
        Due.is("one too far", Frames.layAndTake(x, 0, Frames.unit(127, 1, 1, 1, 5)), 2);
        Due.badArgument("it was not the next", () -> x.taken(1, 0, 0));
        Due.is("abnormal", Frames.layAndTake(x, 0, Frames.unit(5, 1, 0, 0, 5)), 3);
        Due.badArgument("it was abnormal", () -> x.taken(1, 0, 0));
        Due.is("the next", Frames.layAndTake(x, 0, Frames.unit(127, 1, 0, 0, 5)), 1);
        Due.is("it is there", x.taken(1, 0, 0), 5);
        for (int k : new int[] {LEAST, -50, -1, 1, 2, 50, MOST}) {
            Due.badArgument("message " + k, () -> x.taken(1, k, 0));
        }
        for (int end : new int[] {LEAST, -1, 0, 2, MOST}) {
            Due.badArgument("end " + end, () -> x.taken(end, 0, 0));
        }
    }

    /** taken: "or it is none of the latest 50" */
    private static void takenNoneOfTheLatest50() {
        LinkPair x = new LinkPair();
        for (int k = 0; k < 50; k++) {
            x.put(0, 1, k);
            x.send(0);
            x.take(1);
        }
        Due.is("the first of 50", x.taken(1, 0, 0), 0);
        x.put(0, 1, 50);
        x.send(0);
        Due.is("before it comes", x.taken(1, 0, 0), 0);
        x.take(1);
        Due.badArgument("the first of 51", () -> x.taken(1, 0, 0));
        Due.badArgument("far behind in the first of 51", () -> x.taken(1, 0, 272));
        Due.is("the second of 51", x.taken(1, 1, 0), 1);
        Due.is("the last of 51", x.taken(1, 50, 0), 50);
        Due.badArgument("behind the last of 51", () -> x.taken(1, 51, 0));
    }

    /** taken: "from 0 on in all", and a restart does not begin with 0 again */
    private static void takenFromZeroOnInAll() {
        LinkPair x = new LinkPair();
        for (int k = 0; k < 60; k++) {
            if (k % 20 == 10) {
                x.restart(0);
                x.restart(1);
            }
            x.put(0, 1, 100 + k);
            x.send(0);
            Due.is("take " + k, x.take(1), 1);
            Due.is("in all", x.about(1, 7), k + 1);
        }
        for (int k = 10; k < 60; k++) {
            Due.is("message " + k, x.taken(1, k, 0), 100 + k);
        }
        Due.badArgument("message 9", () -> x.taken(1, 9, 0));
        Due.badArgument("message 60", () -> x.taken(1, 60, 0));
    }

    /** check: "n is not 0 .. 8" */
    private static void checkN() {
        LinkPair x = new LinkPair();
        for (int n : new int[] {LEAST, -8, -1, 9, 10, 16, 64, MOST}) {
            Due.badArgument("n " + n, () -> x.check(-1, n));
        }
        long w = 0xFEDC_BA98_7654_3210L;
        int[] bytes = {0x10, 0x32, 0x54, 0x76, 0x98, 0xBA, 0xDC, 0xFE};
        for (int n = 0; n <= 8; n++) {
            Due.is("n " + n, x.check(w, n), Frames.check(java.util.Arrays.copyOf(bytes, n)));
        }
        Due.is("no byte", x.check(w, 0), 0);
        Due.is("a byte more than told", x.check(0x100, 1), x.check(0, 1));
        Due.is("largest", x.check(0xFFFF, 3), 65535);
    }

    /** about: what = 0 to 11 */
    private static void aboutWhat() {
        LinkPair x = new LinkPair();
        for (int what : new int[] {LEAST, -12, -1, 12, 13, 100, MOST}) {
            Due.badArgument("what " + what, () -> x.about(0, what));
            Due.badArgument("what " + what, () -> x.about(1, what));
        }
        for (int end : new int[] {LEAST, -1, 2, MOST}) {
            for (int what : new int[] {-1, 0, 11, 12}) {
                Due.badArgument("end " + end + ", what " + what, () -> x.about(end, what));
            }
        }
        Due.is("the first", x.about(1, 0), 1);
        Due.is("the last", x.about(1, 11), 0);
        Frames.makeFail(x, 1);
        Due.is("the last", x.about(1, 11), 1);
        Due.is("the last of the other end", x.about(0, 11), 0);
    }

    /** restart: "An end begins anew: as at first" */
    private static void restartAsAtFirst() {
        LinkPair x = new LinkPair();
        for (int i = 0; i < 60; i++) {
            x.put(0, 272, i);
        }
        for (int i = 0; i < 40; i++) {
            x.send(0);
        }
        Frames.layAndTake(x, 1, Frames.unit(3, 0, 5, 1, 1));
        Frames.layAndTake(x, 1, Frames.unit(126, 0, 5, 1, 1));
        Frames.layAndTake(x, 1, Frames.FLAG);
        Due.same("before", Due.facts(x, 0), "0 0 39 127 20 36 36 0 40 1 3 0");
        x.restart(0);
        Due.same("behind", Due.facts(x, 0), BEGINNING);
        Due.is("no abnormal unit before", Frames.layAndTake(x, 1, Frames.unit(3, 1, 127, 1)), 3);
        Due.is("127 told latest", Frames.layAndTake(x, 1, FILL), 0);
        Due.is("FIB is 1 as is this BIB", x.about(0, 0), 1);
        Due.is("nothing goes again", x.send(0), 0);
        Due.same("a fill as at first", Frames.seen(x, 0, 0), FILL);
        for (int i = 1; i <= 60; i++) {
            Due.is("room for " + i, x.put(0, 1, i), i);
        }
        Due.badState("no room for 61", () -> x.put(0, 1, 0));
    }

    /** restart: "its line empty" */
    private static void restartEmptiesItsLineAlone() {
        LinkPair x = new LinkPair();
        for (int i = 1; i <= 40; i++) {
            x.bits(0, -1, 64, true);
            x.bits(1, -1, i, true);
        }
        x.bits(0, -1, 64, false);
        x.restart(0);
        Due.is("frames", x.about(0, 8), 0);
        Due.is("frames of the other line", x.about(1, 8), 40);
        Due.badState("nothing comes", () -> x.take(1));
        Due.badArgument("no frame", () -> x.drop(0, 0));
        Due.is("nothing is left of the old ones", x.bits(0, 0, 64, false), 64);
        Due.is("nothing is left of the old ones", x.bit(0, 0, 64), LinkPair.NONE);
        Due.is("bit", x.bit(0, 0, 63), 0);
        for (int i = 2; i <= 40; i++) {
            Due.is("there is room for " + i, x.send(0), 0);
        }
        Due.badState("for no more", () -> x.send(0));
        Due.is("the other line is as it was", x.drop(1, 39), 40);
        Due.is("and comes", x.take(0), -1);
    }

    /** restart: "what it took stays" */
    private static void restartKeepsWhatItTook() {
        LinkPair x = new LinkPair();
        for (int k = 0; k < 51; k++) {
            x.put(0, 2, k);
            x.send(0);
            x.take(1);
        }
        x.restart(1);
        Due.same("facts", Due.facts(x, 1), "1 1 127 127 0 0 0 51 0 0 0 0");
        for (int k = 1; k < 51; k++) {
            Due.is("message " + k, x.taken(1, k, 0), k);
        }
        Due.badArgument("message 0 is gone", () -> x.taken(1, 0, 0));
        Due.badArgument("message 51", () -> x.taken(1, 51, 0));
        Due.is("FSN 0 is the next", Frames.layAndTake(x, 0, Frames.unit(127, 1, 0, 1, 99)), 1);
        Due.is("it is message 51", x.taken(1, 51, 0), 99);
        Due.badArgument("message 1 is gone", () -> x.taken(1, 1, 0));
        x.restart(1);
        x.restart(0);
        Due.is("twice", x.taken(1, 51, 0), 99);
        Due.is("in all", x.about(1, 7), 52);
    }

    /** restart: an end that FAILED begins anew too, by either way of failing. */
    private static void restartOfFullAndFailedEnds() {
        LinkPair x = new LinkPair();
        Frames.makeFail(x, 0);
        x.restart(0);
        Due.same("facts", Due.facts(x, 0), BEGINNING);
        Due.is("abnormal once", Frames.layAndTake(x, 1, Frames.unit(60, 1, 127, 1)), 3);
        Due.is("abnormal twice", Frames.layAndTake(x, 1, Frames.unit(60, 1, 127, 1)), -7);
        x.restart(1);
        Due.is("the other end's restart does not help", x.about(0, 11), 1);
        x.restart(0);
        for (int i = 1; i <= 63; i++) {
            x.bits(1, 0, 1, true);
            Due.is("error " + i, x.take(0), -1);
        }
        x.bits(1, 0, 1, true);
        Due.is("error 64", x.take(0), -11);
        x.restart(0);
        Due.is("error 1", Frames.layAndTake(x, 1, "0"), -1);
        Due.is("errors", x.about(0, 9), 1);
    }

    private static void restartOfANewEnd() {
        LinkPair x = new LinkPair();
        x.restart(0);
        x.restart(1);
        Due.same("end 0", Due.facts(x, 0), BEGINNING);
        Due.same("end 1", Due.facts(x, 1), BEGINNING);
        for (int end : new int[] {LEAST, -2, -1, 2, 3, MOST}) {
            Due.badArgument("end " + end, () -> {
                x.restart(end);
                return 0;
            });
        }
    }
}
