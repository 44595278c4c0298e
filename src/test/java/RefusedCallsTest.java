import java.util.ArrayList;
import java.util.List;

/**
 * "A call that throws changes nothing; of several exceptions that fit the one named first is
 * thrown." Of two objects with the same past one gets refused calls; then both must tell the same.
 */
final class RefusedCallsTest {
    private static final int[] WRONG_ENDS = {-1, 2, Integer.MIN_VALUE, Integer.MAX_VALUE};

    private interface State {
        LinkPair make();
    }

    /** The calls that a state refuses with IllegalStateException. */
    private interface Refused {
        List<Due.Call> by(LinkPair x);
    }

    public static void main(String[] args) {
        refusedBy("a new object", LinkPair::new, x -> List.of(() -> x.take(0), () -> x.take(1)));
        refusedBy("ends at work", RefusedCallsTest::atWork, x -> List.of());
        refusedBy("60 that wait", RefusedCallsTest::withSixtyWaiting, x -> List.of(() -> x.put(0, 1, 0)));
        refusedBy("40 frames", RefusedCallsTest::withFortyFrames,
                x -> List.of(() -> x.send(1), () -> x.bits(1, -1, 1, true), () -> x.bits(1, -1, 64, true)));
        refusedBy("a frame of 3000 bits", RefusedCallsTest::withLongFrame,
                x -> List.of(() -> x.bits(0, -1, 1, false), () -> x.bits(0, -1, 64, false)));
        refusedBy("failed by errors", RefusedCallsTest::failedByErrors, x -> allThatFailedRefuses(x, 1));
        refusedBy("failed by abnormal units", RefusedCallsTest::failedByAbnormalUnits, x -> allThatFailedRefuses(x, 0));
        refusedBy("a restarted end", RefusedCallsTest::restarted, x -> List.of(() -> x.take(1)));
        putNamesTheArgumentFirst();
        bitsNamesTheArgumentFirst();
        Due.finish();
    }

    private static List<Due.Call> allThatFailedRefuses(LinkPair x, int end) {
        return List.of(() -> x.put(end, 1, 1), () -> x.send(end), () -> x.take(end));
    }

    private static void refusedBy(String what, State state, Refused refused) {
        LinkPair x = state.make();
        LinkPair twin = state.make();
        for (Due.Call call : wrongArguments(x)) {
            Due.badArgument(what, call);
        }
        for (Due.Call call : refused.by(x)) {
            Due.badState(what, call);
        }
        Due.same(what + " behind refused calls", tale(x), tale(twin));
    }

    private static List<Due.Call> wrongArguments(LinkPair x) {
        List<Due.Call> calls = new ArrayList<>();
        for (int end : WRONG_ENDS) {
            calls.add(() -> x.put(end, 1, 1));
            calls.add(() -> x.send(end));
            calls.add(() -> x.take(end));
            calls.add(() -> x.flip(end, 0, 0));
            calls.add(() -> x.drop(end, 0));
            calls.add(() -> x.bits(end, 0, 1, true));
            calls.add(() -> x.bit(end, 0, 0));
            calls.add(() -> x.taken(end, 0, 0));
            calls.add(() -> x.about(end, 0));
            calls.add(() -> restart(x, end));
        }
        for (int end = 0; end < 2; end++) {
            addWrongNumbers(calls, x, end);
        }
        return calls;
    }

    private static void addWrongNumbers(List<Due.Call> calls, LinkPair x, int end) {
        int frames = x.about(end, 8);
        int taken = x.about(end, 7);
        calls.add(() -> x.put(end, 0, 0));
        calls.add(() -> x.put(end, 273, 0));
        calls.add(() -> x.put(end, 1, -1));
        calls.add(() -> x.put(end, 1, 256));
        calls.add(() -> x.flip(end, -1, 0));
        calls.add(() -> x.flip(end, frames, 0));
        calls.add(() -> x.flip(end, 0, -1));
        calls.add(() -> x.flip(end, frames - 1, 3000));
        calls.add(() -> x.drop(end, -1));
        calls.add(() -> x.drop(end, frames));
        calls.add(() -> x.bits(end, -1, 0, true));
        calls.add(() -> x.bits(end, -1, 65, false));
        calls.add(() -> x.bit(end, -1, 0));
        calls.add(() -> x.bit(end, frames, 0));
        calls.add(() -> x.taken(end, -1, 0));
        calls.add(() -> x.taken(end, taken, 0));
        calls.add(() -> x.check(1, -1));
        calls.add(() -> x.check(1, 9));
        calls.add(() -> x.about(end, -1));
        calls.add(() -> x.about(end, 12));
    }

    private static int restart(LinkPair x, int end) {
        x.restart(end);
        return 0;
    }

    /** What an object answers to a row of calls that looks at all that it keeps. */
    private static String tale(LinkPair x) {
        StringBuilder all = new StringBuilder();
        for (int end = 0; end < 2; end++) {
            int at = end;
            all.append("\n end ").append(end).append(": ").append(Due.facts(x, end));
            all.append(" sends ").append(Due.outcome(() -> x.send(at)));
            all.append(" takes ").append(Due.outcome(() -> x.take(at)));
            all.append(" bits ").append(Due.outcome(() -> x.bits(at, 5, 3, false)));
            all.append(" waits ").append(Due.outcome(() -> x.put(at, 1, 1)));
            int latest = x.about(end, 7) - 1;
            all.append(" took ").append(Due.outcome(() -> x.taken(at, latest, 0)));
        }
        for (int end = 0; end < 2; end++) {
            all.append("\n end ").append(end).append(": ").append(Due.facts(x, end)).append(" frames");
            for (int left = x.about(end, 8); left > 0; left--) {
                all.append(' ').append(x.bit(end, 0, 20)).append(x.bit(end, 0, 33)).append(x.bit(end, 0, 60));
                all.append(':').append(x.drop(end, 0));
            }
        }
        return all.toString();
    }

    private static LinkPair atWork() {
        LinkPair x = new LinkPair();
        for (int i = 0; i < 6; i++) {
            x.put(0, 1 + i, 40 + i);
            x.put(1, 2 + i, 90 + i);
        }
        for (int i = 0; i < 4; i++) {
            x.send(0);
            x.send(1);
        }
        x.take(1);
        x.take(0);
        x.drop(0, 0);
        x.take(1);
        x.send(1);
        x.flip(1, 0, 20);
        for (int i = 0; i < 4; i++) {
            x.take(0);
        }
        x.send(0);
        x.send(1);
        return x;
    }

    private static LinkPair withSixtyWaiting() {
        LinkPair x = new LinkPair();
        for (int i = 0; i < 60; i++) {
            x.put(0, 1 + i, i);
        }
        return x;
    }

    private static LinkPair withFortyFrames() {
        LinkPair x = new LinkPair();
        x.put(1, 7, 7);
        for (int i = 0; i < 40; i++) {
            x.send(1);
        }
        x.put(1, 7, 8);
        return x;
    }

    private static LinkPair withLongFrame() {
        LinkPair x = new LinkPair();
        for (int i = 0; i < 46; i++) {
            x.bits(0, 0x5555555555555555L, 64, false);
        }
        x.bits(0, 0, 56, false);
        return x;
    }

    private static LinkPair failedByErrors() {
        LinkPair x = new LinkPair();
        x.put(1, 3, 3);
        x.send(1);
        for (int i = 0; i < 64; i++) {
            x.bits(0, 0, 1, true);
            x.take(1);
        }
        x.send(0);
        return x;
    }

    private static LinkPair failedByAbnormalUnits() {
        LinkPair x = atWork();
        x.restart(1);
        Frames.makeFail(x, 0);
        x.send(1);
        return x;
    }

    private static LinkPair restarted() {
        LinkPair x = atWork();
        x.restart(0);
        return x;
    }

    private static void putNamesTheArgumentFirst() {
        LinkPair full = withSixtyWaiting();
        LinkPair failed = new LinkPair();
        Frames.makeFail(failed, 0);
        for (LinkPair x : new LinkPair[] {full, failed}) {
            Due.badArgument("put of length 0", () -> x.put(0, 0, 0));
            Due.badArgument("put of length 273", () -> x.put(0, 273, 0));
            Due.badArgument("put of seed -1", () -> x.put(0, 1, -1));
            Due.badArgument("put of seed 256", () -> x.put(0, 272, 256));
            Due.badState("put", () -> x.put(0, 272, 255));
        }
    }

    private static void bitsNamesTheArgumentFirst() {
        LinkPair full = withFortyFrames();
        LinkPair longest = withLongFrame();
        for (int n : new int[] {Integer.MIN_VALUE, -1, 0, 65, Integer.MAX_VALUE}) {
            Due.badArgument("bits with 40 frames, n " + n, () -> full.bits(1, 0, n, true));
            Due.badArgument("bits with 3000 bits, n " + n, () -> longest.bits(0, 0, n, false));
        }
        Due.badState("bits with 40 frames", () -> full.bits(1, 0, 1, true));
        Due.badState("bits with 3000 bits", () -> longest.bits(0, 0, 1, false));
    }
}
