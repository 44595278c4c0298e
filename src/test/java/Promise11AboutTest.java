/** Promise 11: the facts of an end, each of them seen at another value. */
final class Promise11AboutTest {
    public static void main(String[] args) {
        everyFact();
        askingChangesNothing();
        wrongArguments();
        Due.finish();
    }

    private static void everyFact() {
        LinkPair x = new LinkPair();
        for (int i = 0; i < 9; i++) {
            x.put(0, 1, i);
        }
        for (int i = 0; i < 5; i++) {
            x.send(0);
        }
        x.drop(0, 0);
        for (int k = 0; k < 8; k++) {
            Frames.layAndTake(x, 1, Frames.unit(127, 1, k, 1, k));
        }
        Frames.layAndTake(x, 1, Frames.unit(0, 0, 20, 1, 1));
        x.send(0);
        Frames.layAndTake(x, 1, Frames.FLAG);
        Frames.layAndTake(x, 1, Frames.FLAG);
        int[] want = {0, 0, 4, 7, 4, 4, 3, 8, 5, 2, 11, 0};
        for (int what = 0; what < 12; what++) {
            Due.is("fact " + what, x.about(0, what), want[what]);
        }
        Frames.makeFail(x, 0);
        Due.is("failed", x.about(0, 11), 1);
        Due.is("units", x.about(0, 10), 13);
        Due.same("the other end", Due.facts(x, 1), "1 1 127 127 0 0 0 0 0 0 0 0");
    }

    private static void askingChangesNothing() {
        LinkPair x = new LinkPair();
        x.put(1, 1, 1);
        x.send(1);
        Due.same("facts twice", Due.facts(x, 1), Due.facts(x, 1));
        Due.is("take", x.take(0), 1);
    }

    private static void wrongArguments() {
        LinkPair x = new LinkPair();
        int[][] wrong = {
            {-1, 0}, {2, 0}, {0, -1}, {0, 12}, {1, 12}, {0, Integer.MAX_VALUE}, {0, Integer.MIN_VALUE},
            {Integer.MAX_VALUE, 0}, {Integer.MIN_VALUE, 0}};
        for (int[] w : wrong) {
            Due.badArgument("about " + java.util.Arrays.toString(w), () -> x.about(w[0], w[1]));
        }
    }
}
