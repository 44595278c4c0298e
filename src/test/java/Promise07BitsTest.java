/** Promise 7: bits come behind the last frame of a line or as a new one. */
final class Promise07BitsTest {
    public static void main(String[] args) {
        lowestFirst();
        behindTheLastOrFresh();
        behindWhatWasSent();
        allSixtyFourBits();
        fortyFrames();
        threeThousandBits();
        wrongArguments();
        failedEnd();
        Due.finish();
    }

    private static void lowestFirst() {
        LinkPair x = new LinkPair();
        Due.is("bits", x.bits(0, 0b1011, 6, true), 6);
        Due.same("frame", Frames.seen(x, 0, 0), "110100");
        Due.is("bits above n are not looked at", x.bits(0, -1, 2, false), 8);
        Due.is("more", x.bits(0, 0, 1, false), 9);
        Due.same("frame", Frames.seen(x, 0, 0), "110100110");
    }

    private static void behindTheLastOrFresh() {
        LinkPair x = new LinkPair();
        Due.is("without any, not fresh", x.bits(1, 0, 3, false), 3);
        Due.is("frames", x.about(1, 8), 1);
        Due.is("not fresh", x.bits(1, 0, 3, false), 6);
        Due.is("frames", x.about(1, 8), 1);
        Due.is("fresh", x.bits(1, 0, 4, true), 4);
        Due.is("frames", x.about(1, 8), 2);
        Due.is("behind the last", x.bits(1, 0, 1, false), 5);
        Due.is("the first is as it was", x.bit(1, 0, 6), LinkPair.NONE);
        Due.is("frames of the other end", x.about(0, 8), 0);
    }

    private static void behindWhatWasSent() {
        LinkPair x = new LinkPair();
        x.send(0);
        int length = Frames.unit(127, 1, 127, 1).length();
        Due.is("behind a fill", x.bits(0, 1, 1, false), length + 1);
        Due.is("take", x.take(1), -1);
    }

    private static void allSixtyFourBits() {
        LinkPair x = new LinkPair();
        long w = 0x8000_0001_F00F_1235L;
        StringBuilder want = new StringBuilder("0");
        for (int i = 0; i < 64; i++) {
            want.append(w >>> i & 1);
        }
        x.bits(0, 0, 1, true);
        Due.is("64 bits", x.bits(0, w, 64, false), 65);
        Due.same("frame", Frames.seen(x, 0, 0), want.toString());
    }

    private static void fortyFrames() {
        LinkPair x = new LinkPair();
        for (int i = 0; i < 40; i++) {
            Due.is("fresh", x.bits(0, 0, 1, true), 1);
        }
        Due.badState("the 41st", () -> x.bits(0, 0, 1, true));
        Due.badArgument("the 41st with a wrong n", () -> x.bits(0, 0, 0, true));
        Due.is("frames", x.about(0, 8), 40);
        Due.is("behind the last", x.bits(0, 0, 1, false), 2);
        Due.is("at the other end", x.bits(1, 0, 1, true), 1);
    }

    private static void threeThousandBits() {
        LinkPair x = new LinkPair();
        for (int i = 1; i <= 46; i++) {
            Due.is("bits", x.bits(0, -1, 64, false), 64 * i);
        }
        Due.badState("3008", () -> x.bits(0, 0, 64, false));
        Due.badState("3001", () -> x.bits(0, 0, 57, false));
        Due.is("3000", x.bits(0, 0, 56, false), 3000);
        Due.badState("3001", () -> x.bits(0, 0, 1, false));
        Due.badArgument("3001 with a wrong n", () -> x.bits(0, 0, 65, false));
        Due.is("last bit", x.bit(0, 0, 2999), 0);
        Due.is("the last 1", x.bit(0, 0, 2943), 1);
        Due.is("behind it", x.bit(0, 0, 3000), LinkPair.NONE);
        Due.is("fresh", x.bits(0, 0, 64, true), 64);
        Due.is("drop", x.drop(0, 0), 3000);
    }

    private static void wrongArguments() {
        LinkPair x = new LinkPair();
        for (int n : new int[] {0, -1, 65, Integer.MAX_VALUE, Integer.MIN_VALUE}) {
            Due.badArgument("n " + n, () -> x.bits(0, 0, n, true));
            Due.badArgument("n " + n, () -> x.bits(0, 0, n, false));
        }
        for (int end : new int[] {-1, 2, Integer.MAX_VALUE, Integer.MIN_VALUE}) {
            Due.badArgument("end " + end, () -> x.bits(end, 0, 1, true));
        }
        Due.is("frames", x.about(0, 8), 0);
    }

    /** That an end failed does not keep bits from its line. */
    private static void failedEnd() {
        LinkPair x = new LinkPair();
        Frames.makeFail(x, 0);
        Due.is("bits", x.bits(0, 126, 8, true), 8);
        Due.is("flip", x.flip(0, 0, 0), 1);
        Due.is("take", x.take(1), -1);
    }
}
