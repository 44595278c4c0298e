/** Promise 1: both ends at their beginnings, lines empty. */
final class Promise01NewObjectTest {
    static final String BEGINNING = "1 1 127 127 0 0 0 0 0 0 0 0";

    public static void main(String[] args) {
        factsAtFirst();
        linesAreEmpty();
        objectsAreApart();
        Due.finish();
    }

    private static void factsAtFirst() {
        LinkPair x = new LinkPair();
        Due.same("facts of end 0", Due.facts(x, 0), BEGINNING);
        Due.same("facts of end 1", Due.facts(x, 1), BEGINNING);
        Due.is("NONE", LinkPair.NONE, -1);
    }

    private static void linesAreEmpty() {
        LinkPair x = new LinkPair();
        for (int end = 0; end < 2; end++) {
            int at = end;
            Due.badState("take without a frame", () -> x.take(at));
            Due.badArgument("bit without a frame", () -> x.bit(at, 0, 0));
            Due.badArgument("drop without a frame", () -> x.drop(at, 0));
            Due.badArgument("taken without a message", () -> x.taken(at, 0, 0));
        }
    }

    private static void objectsAreApart() {
        LinkPair x = new LinkPair();
        LinkPair y = new LinkPair();
        x.put(0, 5, 5);
        x.send(0);
        x.take(1);
        Due.same("facts of another object", Due.facts(y, 0), BEGINNING);
        Due.same("facts of another object", Due.facts(y, 1), BEGINNING);
    }
}
