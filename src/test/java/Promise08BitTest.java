/** Promise 8: a bit of a frame, NONE behind it. */
final class Promise08BitTest {
    public static void main(String[] args) {
        everyBit();
        behindTheFrame();
        wrongArguments();
        Due.finish();
    }

    private static void everyBit() {
        String frame = Frames.unit(127, 1, 0, 1, Frames.body(20, 99));
        LinkPair x = new LinkPair();
        x.send(0);
        x.put(0, 20, 99);
        x.send(0);
        for (int i = 0; i < frame.length(); i++) {
            Due.is("bit " + i, x.bit(0, 1, i), frame.charAt(i) - '0');
        }
        Due.is("behind it", x.bit(0, 1, frame.length()), LinkPair.NONE);
        Due.is("it is there still", x.take(1), 0);
    }

    private static void behindTheFrame() {
        LinkPair x = new LinkPair();
        x.bits(1, -1, 64, true);
        x.drop(1, 0);
        x.bits(1, -1, 5, true);
        Due.is("last", x.bit(1, 0, 4), 1);
        for (int i : new int[] {5, 6, 63, 64, 2999, 3000, 3008, 100000, Integer.MAX_VALUE}) {
            Due.is("behind at " + i, x.bit(1, 0, i), LinkPair.NONE);
        }
    }

    /** The document tells NONE only behind the frame: before it there is no such bit. */
    private static void wrongArguments() {
        LinkPair x = new LinkPair();
        x.send(0);
        int[][] wrong = {
            {-1, 0, 0}, {2, 0, 0}, {1, 0, 0}, {0, 1, 0}, {0, -1, 0}, {0, 40, 0}, {0, Integer.MAX_VALUE, 0},
            {0, Integer.MIN_VALUE, 0}, {0, 1, 5000}, {0, 0, -1}, {0, 0, Integer.MIN_VALUE}};
        for (int[] w : wrong) {
            Due.badArgument("bit " + java.util.Arrays.toString(w), () -> x.bit(w[0], w[1], w[2]));
        }
    }
}
