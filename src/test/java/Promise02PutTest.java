/** Promise 2: a message waits at an end. */
final class Promise02PutTest {
    public static void main(String[] args) {
        howManyWait();
        bytesOfMessages();
        lengthAndSeedAtTheirEdges();
        wrongArguments();
        sixtyWait();
        failedEnd();
        Due.finish();
    }

    private static void howManyWait() {
        LinkPair x = new LinkPair();
        Due.is("first put", x.put(0, 1, 0), 1);
        Due.is("second put", x.put(0, 272, 255), 2);
        Due.is("put at the other end", x.put(1, 3, 3), 1);
        Due.is("waiting", x.about(0, 4), 2);
        x.send(0);
        Due.is("put behind a send", x.put(0, 1, 0), 2);
    }

    private static void bytesOfMessages() {
        int[][] messages = {{1, 0}, {8, 255}, {9, 200}, {62, 1}, {272, 31}};
        LinkPair x = new LinkPair();
        for (int k = 0; k < messages.length; k++) {
            int length = messages[k][0];
            x.put(0, length, messages[k][1]);
            x.send(0);
            Due.is("take of message " + k, x.take(1), 1);
            int[] body = Frames.body(length, messages[k][1]);
            for (int i = 0; i < length; i += length > 100 ? 7 : 1) {
                Due.is("byte " + i + " of message " + k, x.taken(1, k, i), body[i]);
            }
            Due.is("length of message " + k, x.taken(1, k, length), LinkPair.NONE);
        }
        Due.is("byte 271 by hand", x.taken(1, 4, 271), 107);
        Due.is("byte 8 by hand", x.taken(1, 2, 8), (200 + 37 * 8 + 1) % 256);
    }

    private static void lengthAndSeedAtTheirEdges() {
        LinkPair x = new LinkPair();
        Due.is("length 1, seed 0", x.put(1, 1, 0), 1);
        Due.is("length 1, seed 255", x.put(1, 1, 255), 2);
        Due.is("length 272, seed 0", x.put(1, 272, 0), 3);
        Due.is("length 272, seed 255", x.put(1, 272, 255), 4);
    }

    private static void wrongArguments() {
        LinkPair x = new LinkPair();
        int[][] wrong = {
            {-1, 1, 0}, {2, 1, 0}, {Integer.MAX_VALUE, 1, 0}, {Integer.MIN_VALUE, 1, 0},
            {0, 0, 0}, {0, -1, 0}, {0, 273, 0}, {0, Integer.MAX_VALUE, 0}, {0, Integer.MIN_VALUE, 0},
            {0, 1, -1}, {0, 1, 256}, {0, 1, Integer.MAX_VALUE}, {0, 1, Integer.MIN_VALUE}};
        for (int[] w : wrong) {
            Due.badArgument("put " + java.util.Arrays.toString(w), () -> x.put(w[0], w[1], w[2]));
        }
        Due.same("facts after wrong puts", Due.facts(x, 0), Promise01NewObjectTest.BEGINNING);
    }

    private static void sixtyWait() {
        LinkPair x = new LinkPair();
        for (int i = 1; i <= 60; i++) {
            Due.is("put " + i, x.put(0, 1, i), i);
        }
        Due.badState("put of the 61st", () -> x.put(0, 1, 0));
        Due.is("waiting", x.about(0, 4), 60);
        Due.badArgument("a wrong length while 60 wait", () -> x.put(0, 0, 0));
        Due.badArgument("a wrong end while 60 wait", () -> x.put(2, 1, 0));
        Due.is("put at the other end", x.put(1, 1, 0), 1);
        x.send(0);
        Due.is("put when one was sent", x.put(0, 1, 77), 60);
        Due.badState("put of the 61st again", () -> x.put(0, 1, 0));
    }

    private static void failedEnd() {
        LinkPair x = new LinkPair();
        Frames.makeFail(x, 0);
        Due.badState("put at a failed end", () -> x.put(0, 1, 0));
        Due.badArgument("a wrong seed at a failed end", () -> x.put(0, 1, 256));
        Due.is("put at the end that did not fail", x.put(1, 1, 0), 1);
    }
}
