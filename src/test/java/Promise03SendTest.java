/** Promise 3: sending puts a frame on an end's line. */
final class Promise03SendTest {
    public static void main(String[] args) {
        fillAtFirst();
        messageThenFill();
        everyLengthByte();
        stuffingAtTheEnd();
        numbersOfWhatWasTaken();
        sendingAgain();
        againIsCutByWhatIsTold();
        againFromTheFirstOnOnceMore();
        indicatorsOfWhatGoesAgain();
        most127AreNotTold();
        allThatAnEndCanKeep();
        numbersGoRound();
        fortyFrames();
        wrongEnds();
        failedEnd();
        Due.finish();
    }

    private static void fillAtFirst() {
        LinkPair x = new LinkPair();
        Due.is("send of a fill", x.send(0), 0);
        Due.is("frames", x.about(0, 8), 1);
        Due.is("frames of the other end", x.about(1, 8), 0);
        Due.is("latest FSN", x.about(0, 2), 127);
        Due.same("frame of a fill", Frames.seen(x, 0, 0), Frames.unit(127, 1, 127, 1));
    }

    private static void messageThenFill() {
        LinkPair x = new LinkPair();
        x.put(1, 3, 255);
        x.put(1, 2, 9);
        Due.is("send", x.send(1), 1);
        Due.is("send", x.send(1), 1);
        Due.is("send", x.send(1), 0);
        Due.same("facts", Due.facts(x, 1), "1 1 1 127 0 2 0 0 3 0 0 0");
        Due.same("frame 0", Frames.seen(x, 1, 0), Frames.unit(127, 1, 0, 1, Frames.body(3, 255)));
        Due.same("frame 1", Frames.seen(x, 1, 1), Frames.unit(127, 1, 1, 1, Frames.body(2, 9)));
        LinkPair y = new LinkPair();
        y.put(1, 1, 1);
        y.send(1);
        y.send(1);
        Due.same("fill", Frames.seen(y, 1, 1), Frames.unit(127, 1, 0, 1));
    }

    private static void everyLengthByte() {
        for (int length : new int[] {1, 2, 61, 62, 63, 64, 65, 127, 128, 255, 256, 271, 272}) {
            LinkPair x = new LinkPair();
            x.put(0, length, 3);
            x.send(0);
            String frame = Frames.unit(127, 1, 0, 1, Frames.body(length, 3));
            Due.is("bit of length " + length, x.bit(0, 0, frame.length()), LinkPair.NONE);
            for (int i = frame.length() - 30; i < frame.length(); i++) {
                Due.is("bit " + i + " of length " + length, x.bit(0, 0, i), frame.charAt(i) - '0');
            }
            for (int i = 0; i < 50; i++) {
                Due.is("bit " + i + " of length " + length, x.bit(0, 0, i), frame.charAt(i) - '0');
            }
            Due.is("bits of length " + length, x.drop(0, 0), frame.length());
        }
    }

    /** A 0 is stuffed also where the fifth 1 is the last bit before the closing flag. */
    private static void stuffingAtTheEnd() {
        int found = 0;
        for (int seed = 0; seed < 256; seed++) {
            String frame = Frames.unit(127, 1, 0, 1, Frames.body(2, seed));
            if (frame.endsWith("111110" + Frames.FLAG)) {
                LinkPair x = new LinkPair();
                x.put(0, 2, seed);
                x.send(0);
                Due.same("stuffed at the end", Frames.seen(x, 0, 0), frame);
                Due.is("take of it", x.take(1), 1);
                found++;
            }
        }
        Due.is("such messages are there", found > 0 ? 1 : 0, 1);
    }

    private static void numbersOfWhatWasTaken() {
        LinkPair x = new LinkPair();
        Frames.layAndTake(x, 1, Frames.unit(127, 1, 0, 1, 7));
        Frames.layAndTake(x, 1, Frames.unit(127, 1, 1, 1, 7));
        x.send(0);
        Due.same("BSN of a fill", Frames.seen(x, 0, 0), Frames.unit(1, 1, 127, 1));
        Frames.layAndTake(x, 1, Frames.unit(127, 1, 3, 1, 7));
        x.put(0, 1, 8);
        x.send(0);
        Due.same("BIB that turned", Frames.seen(x, 0, 1), Frames.unit(1, 0, 0, 1, 8));
    }

    private static LinkPair withThreeSent() {
        LinkPair x = new LinkPair();
        for (int i = 1; i <= 3; i++) {
            x.put(0, i, i);
            x.send(0);
            x.drop(0, 0);
        }
        return x;
    }

    private static void sendingAgain() {
        LinkPair x = withThreeSent();
        x.put(0, 4, 4);
        Due.is("BIB 0 comes", Frames.layAndTake(x, 1, Frames.unit(127, 0, 127, 1)), 0);
        Due.same("facts", Due.facts(x, 0), "0 1 2 127 1 3 3 0 0 0 1 0");
        for (int i = 1; i <= 3; i++) {
            Due.is("send again", x.send(0), 2);
            Due.same("sent again", Frames.seen(x, 0, 0),
                    Frames.unit(127, 1, i - 1, 0, Frames.body(i, i)));
            Due.is("drop", x.drop(0, 0) > 0 ? 1 : 0, 1);
            Due.is("still go again", x.about(0, 6), 3 - i);
            Due.is("latest FSN stays", x.about(0, 2), 2);
        }
        Due.is("then the one that waits", x.send(0), 1);
        LinkPair y = withThreeSent();
        Frames.layAndTake(y, 1, Frames.unit(127, 0, 127, 1));
        for (int i = 0; i < 3; i++) {
            y.send(0);
        }
        Due.is("then a fill", y.send(0), 0);
        Due.same("fill behind it", Frames.seen(y, 0, 3), Frames.unit(127, 1, 2, 0));
    }

    private static void againIsCutByWhatIsTold() {
        LinkPair x = withThreeSent();
        Frames.layAndTake(x, 1, Frames.unit(127, 0, 127, 1));
        x.send(0);
        Frames.layAndTake(x, 1, Frames.unit(0, 0, 127, 1));
        Due.same("the first told", Due.facts(x, 0), "0 1 2 127 0 2 2 0 1 0 2 0");
        Frames.layAndTake(x, 1, Frames.unit(1, 0, 127, 1));
        Due.same("one told that was to go again", Due.facts(x, 0), "0 1 2 127 0 1 1 0 1 0 3 0");
        Due.is("send again", x.send(0), 2);
        Due.same("the third", Frames.seen(x, 0, 1), Frames.unit(127, 1, 2, 0, Frames.body(3, 3)));
        Frames.layAndTake(x, 1, Frames.unit(2, 0, 127, 1));
        Due.is("send", x.send(0), 0);
    }

    private static void againFromTheFirstOnOnceMore() {
        LinkPair x = withThreeSent();
        Frames.layAndTake(x, 1, Frames.unit(127, 0, 127, 1));
        x.send(0);
        x.send(0);
        Due.is("still go again", x.about(0, 6), 1);
        Frames.layAndTake(x, 1, Frames.unit(0, 1, 127, 1));
        Due.same("facts", Due.facts(x, 0), "1 1 2 127 0 2 2 0 2 0 2 0");
        x.send(0);
        Due.same("the second", Frames.seen(x, 0, 2), Frames.unit(127, 1, 1, 1, Frames.body(2, 2)));
    }

    /** What goes again has the indicators and the BSN of now and the FSN of then. */
    private static void indicatorsOfWhatGoesAgain() {
        LinkPair x = withThreeSent();
        Frames.layAndTake(x, 1, Frames.unit(127, 0, 0, 1, 50));
        Frames.layAndTake(x, 1, Frames.unit(127, 0, 5, 1, 50));
        x.send(0);
        Due.same("the first", Frames.seen(x, 0, 0), Frames.unit(0, 0, 0, 0, Frames.body(1, 1)));
    }

    private static void most127AreNotTold() {
        LinkPair x = new LinkPair();
        for (int i = 0; i < 127; i++) {
            x.put(0, 1, i);
            Due.is("send " + i, x.send(0), 1);
            x.drop(0, 0);
        }
        x.put(0, 1, 200);
        Due.same("127 not told", Due.facts(x, 0), "1 1 126 127 1 127 0 0 0 0 0 0");
        Due.is("a fill instead", x.send(0), 0);
        Due.same("waits still", Due.facts(x, 0), "1 1 126 127 1 127 0 0 1 0 0 0");
        Due.is("one is told", Frames.layAndTake(x, 1, Frames.unit(0, 1, 127, 1)), 0);
        Due.is("not told", x.about(0, 5), 126);
        Due.is("the one that waits", x.send(0), 1);
        Due.same("127 not told", Due.facts(x, 0), "1 1 127 127 0 127 0 0 2 0 1 0");
        Due.is("all told and again", Frames.layAndTake(x, 1, Frames.unit(127, 1, 127, 1)), 0);
        Due.is("not told", x.about(0, 5), 0);
    }

    /** 127 that are not told and 60 that wait, the first of them then sent again. */
    private static void allThatAnEndCanKeep() {
        LinkPair x = new LinkPair();
        for (int i = 0; i < 127; i++) {
            if (i >= 40) {
                x.drop(0, 0);
            }
            x.put(0, 1 + i, i);
            x.send(0);
        }
        for (int i = 0; i < 60; i++) {
            x.put(0, 272 - i, i);
        }
        x.drop(0, 0);
        Frames.layAndTake(x, 1, Frames.unit(127, 0, 127, 1));
        Due.same("facts", Due.facts(x, 0), "0 1 126 127 60 127 127 0 39 0 1 0");
        for (int i = 0; i < 40; i++) {
            Due.is("send again", x.send(0), 2);
            int length = Frames.unit(127, 1, i, 0, Frames.body(1 + i, i)).length();
            Due.is("message " + i + " again", x.drop(0, 39), length);
        }
    }

    private static void numbersGoRound() {
        LinkPair x = new LinkPair();
        for (int i = 0; i < 127; i++) {
            x.put(0, 1, i);
            x.send(0);
            x.take(1);
        }
        x.send(1);
        x.take(0);
        Due.is("latest FSN", x.about(0, 2), 126);
        for (int number : new int[] {127, 0, 1}) {
            x.put(0, 1, number);
            x.send(0);
            Due.is("latest FSN", x.about(0, 2), number);
            Due.is("take", x.take(1), 1);
            Due.is("latest FSN taken", x.about(1, 3), number);
        }
        x.send(1);
        Due.is("take", x.take(0), 0);
        Due.is("not told", x.about(0, 5), 0);
        Due.is("taken in all", x.about(1, 7), 130);
    }

    private static void fortyFrames() {
        LinkPair x = new LinkPair();
        for (int i = 0; i < 40; i++) {
            Due.is("send", x.send(0), 0);
        }
        x.put(0, 1, 1);
        Due.badState("send of the 41st", () -> x.send(0));
        Due.same("facts", Due.facts(x, 0), "1 1 127 127 1 0 0 0 40 0 0 0");
        Due.is("send of the other end", x.send(1), 0);
        x.take(1);
        Due.is("send when one was taken", x.send(0), 1);
        Due.badState("send of the 41st", () -> x.send(0));
    }

    private static void wrongEnds() {
        LinkPair x = new LinkPair();
        for (int end : new int[] {-1, 2, Integer.MIN_VALUE, Integer.MAX_VALUE}) {
            Due.badArgument("send", () -> x.send(end));
        }
    }

    private static void failedEnd() {
        LinkPair x = new LinkPair();
        Frames.makeFail(x, 1);
        Due.badState("send of a failed end", () -> x.send(1));
        Due.is("frames", x.about(1, 8), 0);
        Due.is("send of the other end", x.send(0), 0);
    }
}
