/** Promise 5: a bit of a frame turns. */
final class Promise05FlipTest {
    public static void main(String[] args) {
        everyBitTurns();
        onlyThatFrame();
        flippedFramesAreFaulty();
        wrongArguments();
        Due.finish();
    }

    private static void everyBitTurns() {
        String frame = Frames.unit(127, 1, 127, 1);
        LinkPair x = new LinkPair();
        x.send(0);
        for (int i = 0; i < frame.length(); i++) {
            int other = frame.charAt(i) == '0' ? 1 : 0;
            Due.is("flip " + i, x.flip(0, 0, i), other);
            Due.is("bit " + i, x.bit(0, 0, i), other);
            Due.is("flip back " + i, x.flip(0, 0, i), 1 - other);
        }
        Due.is("take of what is as before", x.take(1), 0);
    }

    private static void onlyThatFrame() {
        LinkPair x = new LinkPair();
        for (int i = 0; i < 3; i++) {
            x.bits(0, 0, 64, true);
            x.bits(0, 0, 64, false);
            x.bits(1, 0, 64, true);
        }
        x.flip(0, 1, 70);
        String turned = "0".repeat(70) + "1" + "0".repeat(57);
        Due.is("other frame", x.bit(0, 0, 70), 0);
        Due.is("other frame", x.bit(0, 2, 70), 0);
        Due.is("other line", x.bit(1, 1, 6), 0);
        Due.same("that frame", Frames.seen(x, 0, 1), turned);
    }

    private static void flippedFramesAreFaulty() {
        LinkPair x = new LinkPair();
        x.put(1, 2, 9);
        x.send(1);
        Due.is("flip", x.flip(1, 0, 30), 1);
        Due.is("take", x.take(0), -4);
        x.send(1);
        x.flip(1, 0, 0);
        Due.is("take", x.take(0), -1);
    }

    private static void wrongArguments() {
        LinkPair x = new LinkPair();
        x.bits(0, 0, 10, true);
        x.bits(0, 0, 20, true);
        int[][] wrong = {
            {-1, 0, 0}, {2, 0, 0}, {1, 0, 0}, {0, -1, 0}, {0, 2, 0}, {0, Integer.MAX_VALUE, 0},
            {0, Integer.MIN_VALUE, 0}, {0, 0, -1}, {0, 0, 10}, {0, 1, 20}, {0, 0, 2999}, {0, 0, 3008},
            {0, 0, Integer.MAX_VALUE}, {0, 0, Integer.MIN_VALUE}};
        for (int[] w : wrong) {
            Due.badArgument("flip " + java.util.Arrays.toString(w), () -> x.flip(w[0], w[1], w[2]));
        }
        Due.is("last bit", x.flip(0, 0, 9), 1);
        Due.is("last bit", x.flip(0, 1, 19), 1);
        Due.same("frame 0", Frames.seen(x, 0, 0), "0000000001");
    }
}
