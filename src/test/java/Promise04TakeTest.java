/** Promise 4: taking the first frame of the line to an end. */
final class Promise04TakeTest {
    public static void main(String[] args) {
        ordinaryWay();
        flags();
        sixOnes();
        sizes();
        wrongChecks();
        wrongLengths();
        faultsInTheirOrder();
        stuffingThatIsMissingAtTheEnd();
        forwardPart();
        backwardPart();
        abnormalUnits();
        abnormalDoesNothingElse();
        sixtyFourErrors();
        errorsLeak();
        wrongCalls();
        Due.finish();
    }

    private static void ordinaryWay() {
        LinkPair x = new LinkPair();
        x.put(0, 3, 255);
        x.put(0, 272, 31);
        x.send(0);
        x.send(0);
        x.send(0);
        Due.is("take of a message", x.take(1), 1);
        Due.is("take of a message", x.take(1), 1);
        Due.is("take of a fill", x.take(1), 0);
        Due.same("facts", Due.facts(x, 1), "1 1 127 1 0 0 0 2 0 0 3 0");
        Due.is("frames left", x.about(0, 8), 0);
        x.send(1);
        Due.is("take of what is told", x.take(0), 0);
        Due.same("facts", Due.facts(x, 0), "1 1 1 127 0 0 0 0 0 0 1 0");
    }

    private static void answers(String what, String frame, int want) {
        LinkPair x = new LinkPair();
        Due.is(what, Frames.layAndTake(x, 0, frame), want);
        Due.is(what + ": errors", x.about(1, 9), want < 0 ? 1 : 0);
        Due.is(what + ": units", x.about(1, 10), 1);
        Due.is(what + ": frames", x.about(0, 8), 0);
    }

    private static void flags() {
        String fill = Frames.unit(127, 1, 127, 1);
        answers("a fill", fill, 0);
        answers("one flag alone", Frames.FLAG, -1);
        answers("flags with a common 0", "011111101111110", -1);
        answers("one bit", "0", -1);
        answers("16 bits without flags", "0000000000000000", -1);
        answers("two flags", Frames.FLAG + Frames.FLAG, -3);
        answers("a bit before", "0" + fill, -1);
        answers("a bit behind", fill + "0", -1);
        answers("a 1 behind", fill + "1", -1);
        for (int i = 0; i < 8; i++) {
            answers("opening flag, bit " + i, turned(fill, i), -1);
            answers("closing flag, bit " + i, turned(fill, fill.length() - 1 - i), -1);
        }
    }

    private static String turned(String frame, int i) {
        char bit = frame.charAt(i) == '0' ? '1' : '0';
        return frame.substring(0, i) + bit + frame.substring(i + 1);
    }

    private static String between(String bits) {
        return Frames.FLAG + bits + Frames.FLAG;
    }

    private static void sixOnes() {
        answers("six ones alone", between("111111"), -2);
        answers("five ones alone", between("11111"), -3);
        answers("six ones first", between("111111" + "0".repeat(42)), -2);
        answers("six ones last", between("0".repeat(42) + "111111"), -2);
        answers("six ones behind five", between("111110111111" + "0".repeat(40)), -2);
        answers("a flag between", between(Frames.FLAG), -2);
        answers("six ones far behind", between("01".repeat(1480) + "111111"), -2);
    }

    private static String zerosWithCheck(int bytes) {
        return Frames.frameOf(Frames.checked(new int[bytes - 2]));
    }

    private static void sizes() {
        answers("4 bytes", zerosWithCheck(4), -3);
        answers("3 bytes", zerosWithCheck(3), -3);
        answers("5 bytes of 0", between("0".repeat(40)), -4);
        answers("39 bits", between("0".repeat(39)), -3);
        answers("41 bits", between("0".repeat(41)), -3);
        answers("47 bits", between("0".repeat(47)), -3);
        answers("277 bytes of 0", between("0".repeat(2216)), -4);
        answers("277 bytes and a bit", between("0".repeat(2217)), -3);
        answers("278 bytes", between("0".repeat(2224)), -3);
        answers("278 bytes, check right", zerosWithCheck(278), -3);
        answers("3000 bits", between("0".repeat(2984)), -3);
        answers("a stuffed bit too few", between("0".repeat(34) + "11111"), -3);
        answers("a stuffed bit that makes it whole", between("111110" + "0".repeat(35)), -4);
        int[] longest = new int[272];
        java.util.Arrays.fill(longest, 255);
        answers("272 bytes of 255", Frames.unit(127, 1, 0, 1, longest), 1);
    }

    private static void wrongChecks() {
        int[] unit = Frames.checked(Frames.head(127, 1, 127, 1, 0));
        for (int i = 0; i < 40; i++) {
            int[] wrong = unit.clone();
            wrong[i / 8] ^= 1 << i % 8;
            answers("bit " + i + " of a fill is wrong", Frames.frameOf(wrong), -4);
        }
        int[] swapped = unit.clone();
        swapped[3] = unit[4] ^ 1;
        answers("another check", Frames.frameOf(swapped), -4);
        int[] message = Frames.checked(Frames.join(Frames.head(127, 1, 0, 1, 2), 5, 6));
        int[] upside = message.clone();
        upside[5] = message[6];
        upside[6] = message[5];
        answers("upper byte first", Frames.frameOf(upside), message[5] == message[6] ? 1 : -4);
    }

    private static void withThird(int third, int bodyLength, int want) {
        int[] unit = Frames.join(Frames.head(127, 1, 0, 1, third), new int[bodyLength]);
        String what = "third byte " + third + " with " + bodyLength + " bytes";
        answers(what, Frames.frameOf(Frames.checked(unit)), want);
    }

    private static void wrongLengths() {
        withThird(1, 0, -5);
        withThird(64, 0, -5);
        withThird(128, 0, -5);
        withThird(0, 1, -5);
        withThird(1, 1, 1);
        withThird(2, 1, -5);
        withThird(65, 1, -5);
        withThird(129, 1, -5);
        withThird(62, 62, 1);
        withThird(63, 62, -5);
        withThird(62, 63, -5);
        withThird(63, 63, 1);
        withThird(63, 64, 1);
        withThird(64, 64, -5);
        withThird(0, 64, -5);
        withThird(63, 272, 1);
        withThird(272 % 256, 272, -5);
        withThird(127, 272, -5);
        withThird(191, 272, -5);
    }

    private static void faultsInTheirOrder() {
        answers("no flag and six ones", "1111111" + "0".repeat(40), -1);
        answers("six ones and no whole bytes", between("1111110"), -2);
        answers("no whole bytes and a wrong check", between("0".repeat(43)), -3);
        int[] both = Frames.checked(Frames.head(127, 1, 127, 1, 9));
        both[4] ^= 4;
        answers("wrong check and wrong length", Frames.frameOf(both), -4);
        int[] other = Frames.checked(Frames.head(60, 1, 127, 1, 9));
        answers("wrong length and abnormal", Frames.frameOf(other), -5);
    }

    /** Nothing stands behind the last five 1, so nothing is left out there. */
    private static void stuffingThatIsMissingAtTheEnd() {
        int found = 0;
        for (int value = 0; value < 256; value++) {
            String frame = Frames.unit(127, 1, 0, 1, value, 3);
            String end = "111110" + Frames.FLAG;
            if (frame.endsWith(end)) {
                String without = frame.substring(0, frame.length() - end.length()) + "11111" + Frames.FLAG;
                answers("without the last stuffed bit", without, 1);
                found++;
            }
        }
        Due.is("such units are there", found > 0 ? 1 : 0, 1);
    }

    private static void forwardPart() {
        LinkPair x = new LinkPair();
        Due.is("message with the FSN of the latest", Frames.layAndTake(x, 0, Frames.unit(127, 1, 127, 1, 1)), 0);
        Due.is("next message", Frames.layAndTake(x, 0, Frames.unit(127, 1, 0, 1, 1)), 1);
        Due.is("the same once more", Frames.layAndTake(x, 0, Frames.unit(127, 1, 0, 1, 1)), 0);
        Due.is("fill of that FSN", Frames.layAndTake(x, 0, Frames.unit(127, 1, 0, 1)), 0);
        Due.is("other FIB", Frames.layAndTake(x, 0, Frames.unit(127, 1, 1, 0, 1)), 0);
        Due.is("fill of another FSN, other FIB", Frames.layAndTake(x, 0, Frames.unit(127, 1, 9, 0)), 0);
        Due.same("facts", Due.facts(x, 1), "1 1 127 0 0 0 0 1 0 0 6 0");
        Due.is("fill of the next FSN", Frames.layAndTake(x, 0, Frames.unit(127, 1, 1, 1)), 2);
        Due.same("BIB turned", Due.facts(x, 1), "1 0 127 0 0 0 0 1 0 0 7 0");
        Due.is("not asked again", Frames.layAndTake(x, 0, Frames.unit(127, 1, 2, 1, 1)), 0);
        Due.is("next message with the old FIB", Frames.layAndTake(x, 0, Frames.unit(127, 1, 1, 1, 1)), 0);
        Due.is("next message with the new FIB", Frames.layAndTake(x, 0, Frames.unit(127, 1, 1, 0, 1)), 1);
        Due.is("the one before that", Frames.layAndTake(x, 0, Frames.unit(127, 1, 0, 0, 1)), 2);
        Due.is("BIB turned back", x.about(1, 1), 1);
        Due.is("one too far", Frames.layAndTake(x, 0, Frames.unit(127, 1, 3, 1, 1)), 2);
        Due.is("errors", x.about(1, 9), 0);
        Due.is("taken", x.about(1, 7), 2);
    }

    private static LinkPair withFiveSent() {
        LinkPair x = new LinkPair();
        for (int i = 0; i < 5; i++) {
            x.put(0, 1, i);
            x.send(0);
        }
        return x;
    }

    private static void backwardPart() {
        LinkPair x = withFiveSent();
        Due.is("none told", Frames.layAndTake(x, 1, Frames.unit(127, 1, 127, 1)), 0);
        Due.is("not told", x.about(0, 5), 5);
        Due.is("three told", Frames.layAndTake(x, 1, Frames.unit(2, 1, 127, 1)), 0);
        Due.is("not told", x.about(0, 5), 2);
        Due.is("the same told", Frames.layAndTake(x, 1, Frames.unit(2, 1, 127, 1)), 0);
        Due.is("not told", x.about(0, 5), 2);
        Due.is("one told, FIB turns", Frames.layAndTake(x, 1, Frames.unit(3, 0, 127, 1)), 0);
        Due.same("facts", Due.facts(x, 0), "0 1 4 127 0 1 1 0 5 0 4 0");
        Due.is("all told, FIB turns", Frames.layAndTake(x, 1, Frames.unit(4, 1, 127, 1)), 0);
        Due.same("facts", Due.facts(x, 0), "1 1 4 127 0 0 0 0 5 0 5 0");
        Due.is("told long ago", Frames.layAndTake(x, 1, Frames.unit(3, 1, 127, 1)), 3);
        LinkPair y = withFiveSent();
        Due.is("told with a message", Frames.layAndTake(y, 1, Frames.unit(4, 1, 0, 1, 9)), 1);
        Due.is("not told", y.about(0, 5), 0);
        LinkPair z = withFiveSent();
        Due.is("told and a gap", Frames.layAndTake(z, 1, Frames.unit(1, 0, 4, 1, 9)), 2);
        Due.same("facts", Due.facts(z, 0), "0 0 4 127 0 3 3 0 5 0 1 0");
        LinkPair w = withFiveSent();
        Due.is("one behind the latest", Frames.layAndTake(w, 1, Frames.unit(5, 1, 127, 1)), 3);
        Due.is("one before those told", Frames.layAndTake(w, 1, Frames.unit(126, 1, 127, 1)), -7);
    }

    private static final String GOOD = Frames.unit(127, 1, 127, 1);
    private static final String ABNORMAL = Frames.unit(0, 1, 127, 1);
    private static final String FAULTY = Frames.FLAG;

    private static void abnormalRun(String what, int... answers) {
        LinkPair x = new LinkPair();
        for (int i = 0; i < what.length(); i++) {
            char kind = what.charAt(i);
            String frame = kind == 'a' ? ABNORMAL : kind == 'g' ? GOOD : FAULTY;
            Due.is("unit " + i + " of " + what, Frames.layAndTake(x, 0, frame), answers[i]);
        }
        Due.is("failed after " + what, x.about(1, 11), answers[what.length() - 1] < -5 ? 1 : 0);
    }

    private static void abnormalUnits() {
        abnormalRun("aa", 3, -7);
        abnormalRun("aga", 3, 0, -7);
        abnormalRun("agga", 3, 0, 0, 3);
        abnormalRun("aggaa", 3, 0, 0, 3, -7);
        abnormalRun("gaa", 0, 3, -7);
        abnormalRun("affa", 3, -1, -1, -7);
        abnormalRun("afgfa", 3, -1, 0, -1, -7);
        abnormalRun("agfga", 3, 0, -1, 0, 3);
        abnormalRun("ggaggagga", 0, 0, 3, 0, 0, 3, 0, 0, 3);
    }

    private static void abnormalDoesNothingElse() {
        LinkPair x = new LinkPair();
        x.put(1, 1, 1);
        x.send(1);
        Due.is("abnormal", Frames.layAndTake(x, 0, Frames.unit(1, 0, 0, 1, 9)), 3);
        Due.same("facts", Due.facts(x, 1), "1 1 0 127 0 1 0 0 1 0 1 0");
        Due.is("failed", Frames.layAndTake(x, 0, Frames.unit(1, 0, 7, 1, 9)), -7);
        Due.same("facts", Due.facts(x, 1), "1 1 0 127 0 1 0 0 1 0 2 1");
    }

    private static void sixtyFourErrors() {
        LinkPair x = new LinkPair();
        for (int i = 1; i <= 63; i++) {
            Due.is("error " + i, Frames.layAndTake(x, 0, FAULTY), -1);
        }
        Due.is("errors", x.about(1, 9), 63);
        Due.is("failed", x.about(1, 11), 0);
        Due.is("a good one", Frames.layAndTake(x, 0, GOOD), 0);
        Due.is("the 64th error", Frames.layAndTake(x, 0, "0".repeat(16)), -11);
        Due.same("facts", Due.facts(x, 1), "1 1 127 127 0 0 0 0 0 64 65 1");
        Frames.lay(x, 0, GOOD);
        Due.badState("take of a failed end", () -> x.take(1));
        Due.is("the frame stays", x.about(0, 8), 1);
        Due.is("the other end did not fail", x.about(0, 11), 0);
        Due.is("by a length", failsAt(Frames.frameOf(Frames.checked(new int[] {255, 255, 1}))), -15);
        Due.is("by a check", failsAt(between("0".repeat(40))), -14);
        Due.is("by a size", failsAt(between("")), -13);
        Due.is("by six ones", failsAt(between("111111")), -12);
    }

    private static int failsAt(String frame) {
        LinkPair x = new LinkPair();
        for (int i = 1; i <= 63; i++) {
            Frames.layAndTake(x, 0, frame);
        }
        return Frames.layAndTake(x, 0, frame);
    }

    /** With 63 errors at first and good units then, the given unit is a fault: what it answers. */
    private static int faultAfter63Errors(int unit) {
        LinkPair x = new LinkPair();
        for (int i = 1; i < unit; i++) {
            if (i <= 63) {
                x.bits(0, 0, 1, true);
            } else {
                x.send(0);
            }
            x.take(1);
        }
        x.bits(0, 0, 1, true);
        return x.take(1);
    }

    /** The 256th unit leaks one error before its own counts; its take is the 512th call. */
    private static void errorsLeak() {
        Due.is("the 128th unit", faultAfter63Errors(128), -11);
        Due.is("the 255th unit", faultAfter63Errors(255), -11);
        Due.is("the 256th unit", faultAfter63Errors(256), -1);
    }

    private static void wrongCalls() {
        LinkPair x = new LinkPair();
        for (int end : new int[] {-1, 2, Integer.MIN_VALUE, Integer.MAX_VALUE}) {
            Due.badArgument("take", () -> x.take(end));
        }
        x.send(0);
        Due.badState("take of what goes to the other end", () -> x.take(0));
        Due.is("take", x.take(1), 0);
        Due.badState("take of nothing", () -> x.take(1));
        Due.is("units", x.about(1, 10), 1);
        Frames.makeFail(x, 1);
        x.send(0);
        Due.badState("take of a failed end", () -> x.take(1));
        Due.is("frames", x.about(0, 8), 1);
    }
}
