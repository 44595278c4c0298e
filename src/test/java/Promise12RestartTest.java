/** Promise 12: an end begins anew. */
final class Promise12RestartTest {
    public static void main(String[] args) {
        factsAreAsAtFirst();
        whatItTookStays();
        onlyThatEnd();
        afterFailure();
        abnormalUnitsAreForgotten();
        messagesAreGone();
        wrongArguments();
        Due.finish();
    }

    private static LinkPair busy() {
        LinkPair x = new LinkPair();
        for (int i = 0; i < 4; i++) {
            x.put(0, 2, i);
        }
        x.send(0);
        x.send(0);
        Frames.layAndTake(x, 1, Frames.unit(127, 0, 0, 1, 77, 78));
        Frames.layAndTake(x, 1, Frames.unit(127, 0, 9, 1, 5));
        Frames.layAndTake(x, 1, Frames.FLAG);
        x.send(1);
        return x;
    }

    private static void factsAreAsAtFirst() {
        LinkPair x = busy();
        Due.same("before", Due.facts(x, 0), "0 0 1 0 2 2 2 1 2 1 3 0");
        x.restart(0);
        Due.same("after", Due.facts(x, 0), "1 1 127 127 0 0 0 1 0 0 0 0");
        Due.badState("its line is empty", () -> x.take(1));
        Due.is("a fill goes", x.send(0), 0);
        Due.same("as at first", Frames.seen(x, 0, 0), Frames.unit(127, 1, 127, 1));
    }

    private static void whatItTookStays() {
        LinkPair x = busy();
        x.restart(0);
        Due.is("byte", x.taken(0, 0, 0), 77);
        Due.is("byte", x.taken(0, 0, 1), 78);
        Due.is("behind", x.taken(0, 0, 2), LinkPair.NONE);
        x.take(0);
        Due.is("take of the next", Frames.layAndTake(x, 1, Frames.unit(127, 1, 0, 1, 80)), 1);
        Due.is("messages in all", x.about(0, 7), 2);
        Due.is("byte", x.taken(0, 1, 0), 80);
        Due.is("byte", x.taken(0, 0, 0), 77);
    }

    private static void onlyThatEnd() {
        LinkPair x = busy();
        String before = Due.facts(x, 1);
        x.restart(0);
        Due.same("the other end", Due.facts(x, 1), before);
        Due.is("what is on the way to it stays", x.take(0), 0);
        LinkPair y = busy();
        String other = Due.facts(y, 0);
        y.restart(1);
        Due.same("the other end", Due.facts(y, 0), other);
        Due.is("take", y.take(1), 1);
        Due.badState("the line to it is empty", () -> y.take(0));
    }

    private static void afterFailure() {
        LinkPair x = new LinkPair();
        for (int i = 0; i < 64; i++) {
            Frames.layAndTake(x, 0, Frames.FLAG);
        }
        Due.badState("failed", () -> x.send(1));
        x.restart(1);
        Due.same("facts", Due.facts(x, 1), Promise01NewObjectTest.BEGINNING);
        Due.is("put", x.put(1, 1, 1), 1);
        Due.is("send", x.send(1), 1);
        Due.is("one error more", Frames.layAndTake(x, 0, Frames.FLAG), -1);
        Due.is("errors", x.about(1, 9), 1);
    }

    private static void abnormalUnitsAreForgotten() {
        LinkPair x = new LinkPair();
        String abnormal = Frames.unit(60, 1, 127, 1);
        Due.is("abnormal", Frames.layAndTake(x, 0, abnormal), 3);
        x.restart(1);
        Due.is("abnormal", Frames.layAndTake(x, 0, abnormal), 3);
        x.restart(1);
        Due.is("good", Frames.layAndTake(x, 0, Frames.unit(127, 1, 127, 1)), 0);
        Due.is("abnormal", Frames.layAndTake(x, 0, abnormal), 3);
        Due.is("good", Frames.layAndTake(x, 0, Frames.unit(127, 1, 127, 1)), 0);
        x.restart(1);
        Due.is("abnormal", Frames.layAndTake(x, 0, abnormal), 3);
    }

    private static void messagesAreGone() {
        LinkPair x = busy();
        x.restart(0);
        x.put(0, 1, 9);
        Due.is("send", x.send(0), 1);
        Due.same("the new one", Frames.seen(x, 0, 0), Frames.unit(127, 1, 0, 1, 9));
    }

    private static void wrongArguments() {
        LinkPair x = busy();
        String before = Due.facts(x, 0) + Due.facts(x, 1);
        for (int end : new int[] {-1, 2, Integer.MAX_VALUE, Integer.MIN_VALUE}) {
            Due.badArgument("restart " + end, () -> {
                x.restart(end);
                return 0;
            });
        }
        Due.same("facts", Due.facts(x, 0) + Due.facts(x, 1), before);
    }
}
