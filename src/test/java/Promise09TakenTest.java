/** Promise 9: the bytes of the messages that an end took. */
final class Promise09TakenTest {
    public static void main(String[] args) {
        bytesAndBehind();
        onlyWhatWasTaken();
        theLatestFifty();
        rowsAreUsedAgain();
        wrongArguments();
        Due.finish();
    }

    private static void bytesAndBehind() {
        LinkPair x = new LinkPair();
        Frames.layAndTake(x, 0, Frames.unit(127, 1, 0, 1, 0, 127, 128, 255));
        int[] want = {0, 127, 128, 255, -1, -1};
        for (int i = 0; i < want.length; i++) {
            Due.is("byte " + i, x.taken(1, 0, i), want[i]);
        }
        Due.is("far behind", x.taken(1, 0, 272), LinkPair.NONE);
        Due.is("far behind", x.taken(1, 0, Integer.MAX_VALUE), LinkPair.NONE);
        Due.badArgument("the other end took none", () -> x.taken(0, 0, 0));
        int[] longest = new int[272];
        for (int i = 0; i < 272; i++) {
            longest[i] = 255 - i % 256;
        }
        Due.is("take", Frames.layAndTake(x, 0, Frames.unit(127, 1, 1, 1, longest)), 1);
        for (int i = 0; i < 272; i++) {
            Due.is("byte " + i, x.taken(1, 1, i), longest[i]);
        }
        Due.is("behind", x.taken(1, 1, 272), LinkPair.NONE);
    }

    private static void onlyWhatWasTaken() {
        LinkPair x = new LinkPair();
        Frames.layAndTake(x, 0, Frames.unit(127, 1, 0, 1, 11));
        Frames.layAndTake(x, 0, Frames.unit(127, 1, 0, 1, 22));
        Frames.layAndTake(x, 0, Frames.unit(127, 1, 1, 0, 33));
        Frames.layAndTake(x, 0, Frames.unit(127, 1, 1, 1, 44));
        Due.is("first", x.taken(1, 0, 0), 11);
        Due.is("second", x.taken(1, 1, 0), 44);
        Due.badArgument("third", () -> x.taken(1, 2, 0));
    }

    private static void theLatestFifty() {
        LinkPair x = new LinkPair();
        for (int k = 0; k < 50; k++) {
            Frames.layAndTake(x, 0, Frames.unit(127, 1, k, 1, k));
        }
        Due.is("the first of 50", x.taken(1, 0, 0), 0);
        Due.is("the last of 50", x.taken(1, 49, 0), 49);
        for (int k = 50; k < 103; k++) {
            Frames.layAndTake(x, 0, Frames.unit(127, 1, k, 1, k));
            int gone = k - 50;
            Due.badArgument("gone", () -> x.taken(1, gone, 0));
            Due.is("the oldest that is kept", x.taken(1, k - 49, 0), k - 49);
        }
        for (int k = 53; k < 103; k++) {
            Due.is("kept", x.taken(1, k, 0), k);
        }
        Due.badArgument("not yet", () -> x.taken(1, 103, 0));
    }

    /** A short message in the place of a long one ends where it ends. */
    private static void rowsAreUsedAgain() {
        LinkPair x = new LinkPair();
        for (int k = 0; k < 51; k++) {
            x.put(0, k == 0 ? 272 : 2, k);
            x.send(0);
            x.take(1);
        }
        Due.is("byte", x.taken(1, 50, 1), 87);
        Due.is("behind", x.taken(1, 50, 2), LinkPair.NONE);
        Due.is("its neighbour", x.taken(1, 1, 0), 1);
        x.put(0, 272, 200);
        x.send(0);
        x.take(1);
        Due.is("its last byte", x.taken(1, 51, 271), Frames.body(272, 200)[271]);
        Due.is("behind", x.taken(1, 51, 272), LinkPair.NONE);
        Due.is("the neighbour of a long one", x.taken(1, 2, 0), 2);
        Due.is("the neighbour of a long one", x.taken(1, 50, 0), 50);
    }

    /** The document tells NONE only behind a message: a byte before it is no number that may be. */
    private static void wrongArguments() {
        LinkPair x = new LinkPair();
        x.put(0, 4, 4);
        x.send(0);
        x.take(1);
        int[][] wrong = {
            {-1, 0, 0}, {2, 0, 0}, {0, 0, 0}, {1, -1, 0}, {1, 1, 0}, {1, 50, 0}, {1, Integer.MAX_VALUE, 0},
            {1, Integer.MIN_VALUE, 0}, {1, 0, -1}, {1, 0, Integer.MIN_VALUE}, {1, -50, 0}};
        for (int[] w : wrong) {
            Due.badArgument("taken " + java.util.Arrays.toString(w), () -> x.taken(w[0], w[1], w[2]));
        }
    }
}
