/** Promise 6: a frame is lost. */
final class Promise06DropTest {
    public static void main(String[] args) {
        howManyBits();
        thoseBehindComeForward();
        lostFramesLeaveNothing();
        aFullLineHasRoomAgain();
        wrongArguments();
        Due.finish();
    }

    private static void howManyBits() {
        LinkPair x = new LinkPair();
        x.send(0);
        Due.is("drop of a fill", x.drop(0, 0), Frames.unit(127, 1, 127, 1).length());
        x.bits(0, 0, 1, true);
        Due.is("drop of a bit", x.drop(0, 0), 1);
        Due.is("frames", x.about(0, 8), 0);
    }

    private static void thoseBehindComeForward() {
        LinkPair x = new LinkPair();
        for (int n = 1; n <= 5; n++) {
            x.bits(1, -1, n, true);
        }
        Due.is("drop in the middle", x.drop(1, 2), 3);
        Due.is("the one behind", x.drop(1, 2), 4);
        Due.is("the last", x.drop(1, 2), 5);
        Due.is("frames", x.about(1, 8), 2);
        Due.is("the first", x.drop(1, 0), 1);
        Due.same("what is left", Frames.seen(x, 1, 0), "11");
        Due.badArgument("drop of none", () -> x.drop(1, 1));
    }

    private static void lostFramesLeaveNothing() {
        LinkPair x = new LinkPair();
        x.bits(0, -1, 64, true);
        x.bits(0, -1, 64, false);
        x.drop(0, 0);
        Due.is("bits of a new frame", x.bits(0, 0, 64, false), 64);
        x.bits(0, 0, 64, false);
        Due.same("a new frame", Frames.seen(x, 0, 0), "0".repeat(128));
    }

    private static void aFullLineHasRoomAgain() {
        LinkPair x = new LinkPair();
        for (int i = 1; i <= 40; i++) {
            x.bits(0, 0, i, true);
        }
        Due.is("drop of the last", x.drop(0, 39), 40);
        x.bits(0, 0, 50, true);
        Due.is("drop of the first", x.drop(0, 0), 1);
        x.bits(0, 0, 51, true);
        Due.is("frames", x.about(0, 8), 40);
        Due.is("the second last", x.drop(0, 38), 50);
        Due.is("the last", x.drop(0, 38), 51);
    }

    private static void wrongArguments() {
        LinkPair x = new LinkPair();
        x.send(0);
        int[][] wrong = {
            {-1, 0}, {2, 0}, {1, 0}, {0, 1}, {0, -1}, {0, 40}, {0, Integer.MAX_VALUE}, {0, Integer.MIN_VALUE}};
        for (int[] w : wrong) {
            Due.badArgument("drop " + java.util.Arrays.toString(w), () -> x.drop(w[0], w[1]));
        }
        Due.is("frames", x.about(0, 8), 1);
    }
}
