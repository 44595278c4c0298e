/** The document's Terms, boundary by boundary: each method tests the sentence that stands above it. */
final class BoundaryTermsTest {
    private static final String FILL = Frames.unit(127, 1, 127, 1);
    private static final String ABNORMAL = Frames.unit(0, 1, 127, 1);

    public static void main(String[] args) {
        upTo40Frames();
        sixtyThreeForMore();
        noneAFillOthersAMessage();
        bothFlagsApart();
        sixOnesOneBehindTheOther();
        wholeBytes();
        less5More277();
        checkOfShortestAndLongest();
        thirdByteOfShortestAndLongest();
        firstFaultThatFits();
        sendingGoesOnWith0();
        takingGoesOnWith0();
        tellingGoesOnWith0();
        goingAgainGoesOnWith0();
        fillsTellTheLatestNumber();
        upTo60Wait();
        upTo127NotTold();
        toldLatestIs127AtFirst();
        each256thLeaks();
        at64Failed();
        twoOfThree();
        failedSendsAndTakesNothing();
        latest50();
        Due.finish();
    }

    /** "ENDS are 0 and 1; each has a LINE to the other one, a row of up to 40 FRAMES" */
    private static void upTo40Frames() {
        LinkPair x = new LinkPair();
        for (int i = 1; i <= 40; i++) {
            if (i % 2 == 0) {
                Due.is("send " + i, x.send(0), 0);
            } else {
                Due.is("fresh bits " + i, x.bits(0, i, 20 + i, true), 20 + i);
            }
            Due.is("frames", x.about(0, 8), i);
        }
        Due.badState("send of the 41st", () -> x.send(0));
        Due.badState("fresh bits as the 41st", () -> x.bits(0, 0, 1, true));
        Due.is("the last is no other one", x.drop(0, 39), FILL.length());
        Due.is("the first is no other one", x.drop(0, 0), 21);
        Due.is("the 39th", x.send(0), 0);
        Due.is("the 40th", x.bits(0, 0, 1, true), 1);
        Due.badState("the 41st", () -> x.send(0));
        Due.is("the other line", x.send(1), 0);
    }

    /** The third byte of the frame that an end sends for a message of this length. */
    private static int thirdByteSent(int length) {
        LinkPair x = new LinkPair();
        x.put(0, length, 0);
        x.send(0);
        StringBuilder bits = new StringBuilder();
        for (int i = 8; i < 50; i++) {
            bits.append(x.bit(0, 0, i));
        }
        String plain = bits.toString().replace("111110", "11111").substring(16, 24);
        Due.is("take of length " + length, x.take(1), 1);
        return Integer.parseInt(new StringBuilder(plain).reverse().toString(), 2);
    }

    /** "how many bytes follow, 63 for more (the two bits above are 0)" */
    private static void sixtyThreeForMore() {
        int[][] due = {
            {1, 1}, {2, 2}, {31, 31}, {32, 32}, {61, 61}, {62, 62}, {63, 63}, {64, 63}, {65, 63}, {126, 63},
            {127, 63}, {128, 63}, {191, 63}, {192, 63}, {255, 63}, {256, 63}, {257, 63}, {271, 63}, {272, 63}};
        for (int[] d : due) {
            Due.is("third byte of length " + d[0], thirdByteSent(d[0]), d[1]);
        }
    }

    private static int answerTo(String frame) {
        LinkPair x = new LinkPair();
        int answer = Frames.layAndTake(x, 0, frame);
        Due.is("units", x.about(1, 10), 1);
        Due.is("errors", x.about(1, 9), answer < 0 ? 1 : 0);
        Due.is("messages", x.about(1, 7), answer == 1 ? 1 : 0);
        return answer;
    }

    /** "none: a FILL; 1 to 272: a MESSAGE" */
    private static void noneAFillOthersAMessage() {
        Due.is("a fill of the latest FSN", answerTo(Frames.unit(127, 1, 127, 1)), 0);
        Due.is("a fill of the next FSN is no message", answerTo(Frames.unit(127, 1, 0, 1)), 2);
        for (int length : new int[] {1, 2, 62, 63, 64, 271, 272}) {
            Due.is("length " + length, answerTo(Frames.unit(127, 1, 0, 1, new int[length])), 1);
        }
        Due.is("length 273", answerTo(Frames.unit(127, 1, 0, 1, new int[273])), -3);
    }

    /** "1 it does not begin and end with a flag, both apart (16 bits at least)" */
    private static void bothFlagsApart() {
        for (int bits = 1; bits <= 7; bits++) {
            Due.is(bits + " bits of a flag", answerTo(Frames.FLAG.substring(0, bits)), -1);
        }
        Due.is("8 bits, one flag as both", answerTo(Frames.FLAG), -1);
        Due.is("15 bits, one 0 in both", answerTo("011111101111110"), -1);
        Due.is("16 bits, both apart", answerTo("0111111001111110"), -3);
        Due.is("16 bits, the first is none", answerTo("0111110001111110"), -1);
        Due.is("16 bits, the last is none", answerTo("0111111000111110"), -1);
        Due.is("17 bits, both apart", answerTo("01111110001111110"), -3);
        Due.is("a fill with a flag more before it", answerTo(Frames.FLAG + FILL), -2);
        Due.is("a fill with a flag more behind it", answerTo(FILL + Frames.FLAG), -2);
        Due.is("a fill without its first bit", answerTo(FILL.substring(1)), -1);
        Due.is("a fill without its last bit", answerTo(FILL.substring(0, FILL.length() - 1)), -1);
    }

    private static String between(String bits) {
        return Frames.FLAG + bits + Frames.FLAG;
    }

    /** "2 between them are six 1 one behind the other" */
    private static void sixOnesOneBehindTheOther() {
        Due.is("five 1 first", answerTo(between("11111" + "0".repeat(36))), -4);
        Due.is("six 1 first", answerTo(between("111111" + "0".repeat(35))), -2);
        Due.is("five 1 last", answerTo(between("0".repeat(35) + "11111")), -4);
        Due.is("six 1 last", answerTo(between("0".repeat(34) + "111111")), -2);
        Due.is("five 1 twice", answerTo(between("11111011111" + "0".repeat(31))), -4);
        Due.is("six 1 behind five", answerTo(between("111110111111" + "0".repeat(30))), -2);
        Due.is("seven 1", answerTo(between("0".repeat(20) + "1111111" + "0".repeat(13))), -2);
        Due.is("six 1 in 3000 bits", answerTo(between("0".repeat(2978) + "111111")), -2);
        Due.is("five 1 in 3000 bits", answerTo(between("0".repeat(2979) + "11111")), -3);
    }

    /** "3 the bits between, without those behind five 1, are not whole bytes" */
    private static void wholeBytes() {
        for (int bits = 40; bits <= 48; bits++) {
            Due.is(bits + " bits", answerTo(between("0".repeat(bits))), bits % 8 == 0 ? -4 : -3);
            String stuffed = "111110" + "0".repeat(bits - 5);
            Due.is(bits + " bits and one stuffed", answerTo(between(stuffed)), bits % 8 == 0 ? -4 : -3);
        }
        Due.is("a fill with a 0 more", answerTo(FILL.substring(0, FILL.length() - 8) + "0" + Frames.FLAG), -3);
    }

    /** "or less than 5 or more than 277" */
    private static void less5More277() {
        int[][] due = {{0, -3}, {1, -3}, {2, -3}, {3, -3}, {4, -3}, {5, -4}, {6, -4}, {276, -4}, {277, -4}, {278, -3}, {373, -3}};
        for (int[] d : due) {
            Due.is(d[0] + " bytes of 0", answerTo(between("0".repeat(8 * d[0]))), d[1]);
        }
        Due.is("277 bytes and 7 bits", answerTo(between("0".repeat(2223))), -3);
        Due.is("4 bytes and 7 bits", answerTo(between("0".repeat(39))), -3);
        Due.is("4 bytes with their check", answerTo(Frames.frameOf(Frames.checked(new int[] {255, 255}))), -3);
        Due.is("278 bytes with their check", answerTo(Frames.unit(127, 1, 0, 1, new int[273])), -3);
        int[] ones = new int[277];
        java.util.Arrays.fill(ones, 255);
        Due.is("277 bytes of 255", answerTo(Frames.frameOf(ones)), -4);
        int[] onesMore = new int[278];
        java.util.Arrays.fill(onesMore, 255);
        Due.is("278 bytes of 255", answerTo(Frames.frameOf(onesMore)), -3);
    }

    private static int[] bytesOf(int bsn, int fsn, int length) {
        int[] head = Frames.head(bsn, 1, fsn, 1, Math.min(length, 63));
        return Frames.checked(Frames.join(head, Frames.body(length, 17)));
    }

    private static int withBitTurned(int[] bytes, int i) {
        int[] wrong = bytes.clone();
        wrong[i / 8] ^= 1 << i % 8;
        return answerTo(Frames.frameOf(wrong));
    }

    /** "4 the check is wrong" */
    private static void checkOfShortestAndLongest() {
        for (int length : new int[] {0, 1, 272}) {
            int[] unit = bytesOf(127, length == 0 ? 127 : 0, length);
            int last = 8 * unit.length - 1;
            Due.is("right check of length " + length, answerTo(Frames.frameOf(unit)), length == 0 ? 0 : 1);
            for (int i : new int[] {0, 7, 8, 15, 16, 23, last - 16, last - 15, last - 8, last - 7, last}) {
                Due.is("bit " + i + " wrong, length " + length, withBitTurned(unit, i), -4);
            }
        }
    }

    private static int withThird(int third, int length) {
        int[] unit = Frames.join(Frames.head(127, 1, 0, 1, third), new int[length]);
        return answerTo(Frames.frameOf(Frames.checked(unit)));
    }

    /** "5 the third byte is not how many bytes are there as told" */
    private static void thirdByteOfShortestAndLongest() {
        for (int third = 0; third < 256; third++) {
            Due.is("no byte told as " + third, withThird(third, 0), third == 0 ? 2 : -5);
            Due.is("1 byte told as " + third, withThird(third, 1), third == 1 ? 1 : -5);
            Due.is("62 bytes told as " + third, withThird(third, 62), third == 62 ? 1 : -5);
            Due.is("63 bytes told as " + third, withThird(third, 63), third == 63 ? 1 : -5);
            Due.is("64 bytes told as " + third, withThird(third, 64), third == 63 ? 1 : -5);
        }
        for (int third : new int[] {0, 15, 16, 17, 62, 63, 64, 127, 191, 255}) {
            Due.is("272 bytes told as " + third, withThird(third, 272), third == 63 ? 1 : -5);
            Due.is("256 bytes told as " + third, withThird(third, 256), third == 63 ? 1 : -5);
        }
    }

    /** "READING a frame, the first FAULT that fits" */
    private static void firstFaultThatFits() {
        Due.is("1 before 2 and 3", answerTo("111111"), -1);
        Due.is("1 before 2", answerTo("0" + between("111111")), -1);
        Due.is("1 before 4", answerTo(between("0".repeat(40)) + "0"), -1);
        Due.is("2 before 3", answerTo(between("111111")), -2);
        Due.is("2 before 3, too long", answerTo(between("0".repeat(2900) + "111111")), -2);
        Due.is("2 before 4", answerTo(between("0".repeat(34) + "111111")), -2);
        Due.is("3 before 4", answerTo(between("0".repeat(41))), -3);
        Due.is("3 before 5", answerTo(Frames.unit(127, 1, 0, 1, new int[300])), -3);
        int[] both = Frames.checked(Frames.head(127, 1, 127, 1, 63));
        both[3] ^= 128;
        Due.is("4 before 5", answerTo(Frames.frameOf(both)), -4);
        int[] five = Frames.checked(Frames.head(0, 0, 55, 1, 63));
        Due.is("5 before an abnormal BSN", answerTo(Frames.frameOf(five)), -5);
    }

    /** An end that has sent so many messages, all of them taken by the other end and told. */
    private static LinkPair withToldMessages(int count) {
        LinkPair x = new LinkPair();
        for (int i = 0; i < count; i++) {
            x.put(0, 1, i % 256);
            x.send(0);
            x.take(1);
            if (i == 99 || i == count - 1) {
                x.send(1);
                x.take(0);
            }
        }
        Due.is("all are told", x.about(0, 5), 0);
        Due.is("all are taken", x.about(1, 7), count);
        return x;
    }

    /** The numbers and indicators of end 0's first frame, looked at with few calls. */
    private static void headIs(LinkPair x, String frame) {
        for (int i = 8; i < 27; i++) {
            Due.is("bit " + i, x.bit(0, 0, i), frame.charAt(i) - '0');
        }
    }

    /** "the FSN of the message that it sent latest (127 at first; it goes on with 0 behind 127)" */
    private static void sendingGoesOnWith0() {
        LinkPair x = new LinkPair();
        Due.is("at first", x.about(0, 2), 127);
        x.put(0, 1, 9);
        x.send(0);
        Due.is("behind 127 at first", x.about(0, 2), 0);
        LinkPair y = withToldMessages(126);
        for (int number : new int[] {126, 127, 0, 1}) {
            y.put(0, 1, 9);
            Due.is("send", y.send(0), 1);
            Due.is("latest FSN sent", y.about(0, 2), number);
            headIs(y, Frames.unit(127, 1, number, 1, 9));
            y.drop(0, 0);
        }
    }

    /** "the FSN of the message that it took latest (127)" */
    private static void takingGoesOnWith0() {
        LinkPair x = withToldMessages(127);
        Due.is("latest FSN taken", x.about(1, 3), 126);
        Due.is("0 before 127", Frames.layAndTake(x, 0, Frames.unit(127, 1, 0, 1, 5)), 2);
        Due.is("127", Frames.layAndTake(x, 0, Frames.unit(127, 1, 127, 0, 5)), 1);
        Due.is("latest FSN taken", x.about(1, 3), 127);
        Due.is("127 once more", Frames.layAndTake(x, 0, Frames.unit(127, 1, 127, 0, 5)), 0);
        Due.is("1 before 0", Frames.layAndTake(x, 0, Frames.unit(127, 1, 1, 0, 5)), 2);
        Due.is("0", Frames.layAndTake(x, 0, Frames.unit(127, 1, 0, 1, 6)), 1);
        Due.is("latest FSN taken", x.about(1, 3), 0);
        Due.is("127 behind 0", Frames.layAndTake(x, 0, Frames.unit(127, 1, 127, 1, 5)), 2);
        x.send(1);
        Due.same("BSN", Frames.seen(x, 1, 0), Frames.unit(0, 0, 127, 1));
    }

    /** An end with messages 126, 127, 0 and 1 that are not told, 125 told latest. */
    private static LinkPair notToldAcross0() {
        LinkPair x = withToldMessages(126);
        for (int i = 0; i < 4; i++) {
            x.put(0, 1, 200 + i);
            x.send(0);
            x.drop(0, 0);
        }
        Due.is("not told", x.about(0, 5), 4);
        return x;
    }

    private static void toldBy(int bsn, int answer, int left) {
        LinkPair x = notToldAcross0();
        Due.is("BSN " + bsn, Frames.layAndTake(x, 1, Frames.unit(bsn, 1, 127, 1)), answer);
        Due.is("left behind BSN " + bsn, x.about(0, 5), left);
    }

    /** "if the BSN is not that of a message that is not told as taken, nor that of the one told latest" */
    private static void tellingGoesOnWith0() {
        toldBy(124, 3, 4);
        toldBy(125, 0, 4);
        toldBy(126, 0, 3);
        toldBy(127, 0, 2);
        toldBy(0, 0, 1);
        toldBy(1, 0, 0);
        toldBy(2, 3, 4);
        toldBy(64, 3, 4);
    }

    /** "all that are left go AGAIN from the first on", with their numbers across 0 */
    private static void goingAgainGoesOnWith0() {
        LinkPair x = notToldAcross0();
        Due.is("126 told", Frames.layAndTake(x, 1, Frames.unit(126, 0, 127, 1)), 0);
        int[] numbers = {127, 0, 1};
        for (int i = 0; i < 3; i++) {
            Due.is("go again", x.about(0, 6), 3 - i);
            Due.is("send again", x.send(0), 2);
            headIs(x, Frames.unit(127, 1, numbers[i], 0, 201 + i));
            Due.is("latest FSN sent", x.about(0, 2), 1);
            x.drop(0, 0);
        }
        Due.is("no more again", x.send(0), 0);
    }

    /** "otherwise a fill, with the FSN of its latest message" */
    private static void fillsTellTheLatestNumber() {
        LinkPair x = new LinkPair();
        x.send(0);
        Due.same("before any message", Frames.seen(x, 0, 0), Frames.unit(127, 1, 127, 1));
        x.drop(0, 0);
        x.put(0, 1, 1);
        x.send(0);
        x.drop(0, 0);
        x.send(0);
        Due.same("behind the first", Frames.seen(x, 0, 0), Frames.unit(127, 1, 0, 1));
        LinkPair y = withToldMessages(128);
        y.send(0);
        Due.same("behind 127", Frames.seen(y, 0, 0), Frames.unit(127, 1, 127, 1));
    }

    /** "the messages that wait (up to 60)" */
    private static void upTo60Wait() {
        LinkPair x = new LinkPair();
        for (int i = 1; i <= 60; i++) {
            Due.is("put", x.put(1, 1, i), i);
        }
        Due.badState("the 61st", () -> x.put(1, 1, 61));
        for (int i = 1; i <= 40; i++) {
            Due.is("send", x.send(1), 1);
            Due.is("waiting", x.about(1, 4), 60 - i);
            Due.is("not told", x.about(1, 5), i);
        }
        for (int i = 21; i <= 60; i++) {
            Due.is("put", x.put(1, 1, i), i);
        }
        Due.badState("the 61st", () -> x.put(1, 1, 61));
        for (int i = 1; i <= 40; i++) {
            Due.is("take", x.take(0), 1);
            Due.is("in order", x.taken(0, i - 1, 0), i);
        }
    }

    /** "those that were sent and are not told as taken (up to 127, in order)" */
    private static void upTo127NotTold() {
        LinkPair x = new LinkPair();
        for (int i = 1; i <= 127; i++) {
            x.put(0, 1, i);
            Due.is("send " + i, x.send(0), 1);
            x.take(1);
        }
        x.put(0, 1, 250);
        x.put(0, 1, 251);
        Due.is("not told", x.about(0, 5), 127);
        Due.is("a fill", x.send(0), 0);
        Due.is("wait", x.about(0, 4), 2);
        Due.is("take of the fill", x.take(1), 0);
        Due.is("nothing is told", Frames.layAndTake(x, 1, Frames.unit(127, 1, 127, 1)), 0);
        Due.is("still a fill", x.send(0), 0);
        Due.is("one is told", Frames.layAndTake(x, 1, Frames.unit(0, 1, 127, 1)), 0);
        Due.is("a message", x.send(0), 1);
        Due.is("the 127th again", x.about(0, 5), 127);
        Due.is("a fill", x.send(0), 0);
        Due.is("all but one told", Frames.layAndTake(x, 1, Frames.unit(126, 1, 127, 1)), 0);
        Due.is("not told", x.about(0, 5), 1);
        Due.is("BSN 0 was told long ago", Frames.layAndTake(x, 1, Frames.unit(0, 1, 127, 1)), 3);
    }

    /** "nor that of the one told latest (127 at first), it is ABNORMAL" */
    private static void toldLatestIs127AtFirst() {
        for (int bsn = 0; bsn < 128; bsn++) {
            int want = bsn == 127 ? 0 : 3;
            Due.is("BSN " + bsn + " at first", answerTo(Frames.unit(bsn, 1, 127, 1)), want);
        }
    }

    /** Errors at first, then fills, then the given unit, which is a fault: what it answers. */
    private static int faultAs(int unit, int errorsBefore) {
        LinkPair x = new LinkPair();
        for (int i = 1; i < unit; i++) {
            if (i <= errorsBefore) {
                x.bits(0, 0, 1, true);
            } else {
                x.send(0);
            }
            x.take(1);
        }
        x.bits(0, 0, 1, true);
        return x.take(1);
    }

    /** "each 256th makes the error count 1 less, if it is above 0": the 256th take is call 512. */
    private static void each256thLeaks() {
        Due.is("64th error as unit 254", faultAs(254, 63), -11);
        Due.is("64th error as unit 255", faultAs(255, 63), -11);
        Due.is("error as unit 256", faultAs(256, 63), -1);
        Due.is("63rd error as unit 256", faultAs(256, 62), -1);
        Due.is("first error as unit 256", faultAs(256, 0), -1);
    }

    /** "With a FAULT the error count is 1 more; at 64 the end has FAILED." */
    private static void at64Failed() {
        LinkPair x = new LinkPair();
        for (int i = 1; i <= 63; i++) {
            x.bits(1, 0, 1, true);
            Due.is("fault", x.take(0), -1);
        }
        Due.is("errors", x.about(0, 9), 63);
        Due.is("failed", x.about(0, 11), 0);
        Due.is("it sends", x.send(0), 0);
        Due.is("it takes", Frames.layAndTake(x, 1, FILL), 0);
        Due.is("an abnormal one is no error", Frames.layAndTake(x, 1, ABNORMAL), 3);
        Due.is("errors", x.about(0, 9), 63);
        x.bits(1, 0, 1, true);
        Due.is("the 64th", x.take(0), -11);
        Due.is("errors", x.about(0, 9), 64);
        Due.is("failed", x.about(0, 11), 1);
        Due.is("the other end", x.about(1, 11), 0);
    }

    private static void failsAfter(String past, boolean fails) {
        LinkPair x = new LinkPair();
        for (char kind : past.toCharArray()) {
            Due.is("not failed in " + past, x.about(1, 11), 0);
            Frames.layAndTake(x, 0, kind == 'a' ? ABNORMAL : kind == 'g' ? FILL : Frames.FLAG);
        }
        Due.is("failed after " + past, x.about(1, 11), fails ? 1 : 0);
    }

    /** "if of the latest three units without fault two were abnormal, this one among them" */
    private static void twoOfThree() {
        failsAfter("a", false);
        failsAfter("aa", true);
        failsAfter("aga", true);
        failsAfter("agg", false);
        failsAfter("agga", false);
        failsAfter("aggag", false);
        failsAfter("aggaga", true);
        failsAfter("aggagga", false);
        failsAfter("gga", false);
        failsAfter("ggaa", true);
        failsAfter("afffa", true);
        failsAfter("afgffa", true);
        failsAfter("agffga", false);
        LinkPair x = new LinkPair();
        Frames.layAndTake(x, 0, ABNORMAL);
        Due.is("a message between", Frames.layAndTake(x, 0, Frames.unit(127, 1, 0, 1, 1)), 1);
        Due.is("a gap between", Frames.layAndTake(x, 0, Frames.unit(127, 1, 9, 1, 1)), 2);
        Due.is("one of three", Frames.layAndTake(x, 0, ABNORMAL), 3);
        Due.is("two of three", Frames.layAndTake(x, 0, ABNORMAL), -7);
    }

    /** "An end that FAILED sends and takes nothing." */
    private static void failedSendsAndTakesNothing() {
        LinkPair x = new LinkPair();
        x.put(0, 2, 50);
        x.put(0, 2, 60);
        x.send(0);
        Frames.layAndTake(x, 1, Frames.unit(127, 1, 0, 1, 33));
        Frames.makeFail(x, 0);
        x.send(1);
        String before = Due.facts(x, 0);
        Due.same("facts", before, "1 1 0 0 1 1 0 1 1 0 3 1");
        Due.badState("send", () -> x.send(0));
        Due.badState("take", () -> x.take(0));
        Due.badState("put", () -> x.put(0, 1, 1));
        Due.same("facts", Due.facts(x, 0), before);
        Due.is("frames to it", x.about(1, 8), 1);
        Due.is("what it took is there", x.taken(0, 0, 0), 33);
        Due.is("its line is there", x.bit(0, 0, 1), 1);
        Due.is("what it sent comes", x.take(1), 1);
        Due.is("the other end sends", x.send(1), 0);
    }

    /** "TAKEN messages are kept, the latest 50." */
    private static void latest50() {
        LinkPair x = new LinkPair();
        for (int k = 0; k < 101; k++) {
            x.put(0, 1, k);
            x.send(0);
            x.take(1);
            int oldest = Math.max(0, k - 49);
            Due.is("oldest of " + (k + 1), x.taken(1, oldest, 0), oldest);
            if (k == 49 || k == 50 || k == 99 || k == 100) {
                Due.is("latest", x.taken(1, k, 0), k);
                Due.badArgument("one before the oldest", () -> x.taken(1, oldest - 1, 0));
            }
        }
        Due.is("in all", x.about(1, 7), 101);
    }
}
