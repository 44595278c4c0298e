/** Promise 10: the check of up to eight bytes. */
final class Promise10CheckTest {
    public static void main(String[] args) {
        byHand();
        asTheRecipe();
        bytesAboveAreNotLookedAt();
        wrongArguments();
        Due.finish();
    }

    /** Values that another program worked out for the public check of this kind. */
    private static void byHand() {
        LinkPair x = new LinkPair();
        Due.is("no byte", x.check(0, 0), 0);
        Due.is("a byte 0", x.check(0, 1), 61560);
        Due.is("a byte 255", x.check(255, 1), 65280);
        Due.is("the text 1", x.check(0x31, 1), 53362);
        Due.is("the text 12345678", x.check(4050765991979987505L, 8), 2154);
        Due.is("1 to 7", x.check(1976943448883713L, 7), 27905);
        Due.is("eight bytes 255", x.check(-1L, 8), 1046);
        Due.is("eight bytes 0", x.check(0, 8), 33651);
        Due.is("255 255 0", x.check(0xFFFF, 3), 65535);
    }

    private static void asTheRecipe() {
        LinkPair x = new LinkPair();
        long w = 0x0123456789ABCDEFL;
        for (int round = 0; round < 50; round++) {
            w = w * 6364136223846793005L + 1442695040888963407L;
            for (int n = 0; n <= 8; n++) {
                int[] bytes = new int[n];
                for (int i = 0; i < n; i++) {
                    bytes[i] = (int) (w >>> 8 * i & 255);
                }
                Due.is("check(" + w + ", " + n + ")", x.check(w, n), Frames.check(bytes));
            }
        }
    }

    private static void bytesAboveAreNotLookedAt() {
        LinkPair x = new LinkPair();
        Due.is("none of them", x.check(-1L, 0), 0);
        Due.is("one of them", x.check(0x1234567890FFL, 1), 65280);
    }

    private static void wrongArguments() {
        LinkPair x = new LinkPair();
        for (int n : new int[] {-1, 9, 64, Integer.MAX_VALUE, Integer.MIN_VALUE}) {
            Due.badArgument("n " + n, () -> x.check(0, n));
        }
        Due.same("facts", Due.facts(x, 0), Promise01NewObjectTest.BEGINNING);
    }
}
