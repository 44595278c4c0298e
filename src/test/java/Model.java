import java.util.ArrayList;
import java.util.List;

/** The document once more, in its plainest form: frames are texts, messages are rows in lists. */
final class Model {
    private static final class Sent {
        int number;
        int[] body;
    }

    private static final class Side {
        List<String> line = new ArrayList<>();
        List<int[]> waiting = new ArrayList<>();
        List<Sent> untold = new ArrayList<>();
        /** The index in untold of the next that goes again; its size if none does. */
        int nextAgain;
        int fib = 1;
        int bib = 1;
        int latestSent = 127;
        int latestTold = 127;
        int latestTaken = 127;
        int errors;
        int units;
        boolean failed;
        String past = "";
        List<int[]> taken = new ArrayList<>();
    }

    private final Side[] sides = {new Side(), new Side()};

    private Side side(int end) {
        if (end != 0 && end != 1) {
            throw new IllegalArgumentException();
        }
        return sides[end];
    }

    private static void argument(boolean good) {
        if (!good) {
            throw new IllegalArgumentException();
        }
    }

    private static void state(boolean good) {
        if (!good) {
            throw new IllegalStateException();
        }
    }

    int put(int end, int length, int seed) {
        Side s = side(end);
        argument(length >= 1 && length <= 272 && seed >= 0 && seed <= 255);
        state(s.waiting.size() < 60 && !s.failed);
        s.waiting.add(Frames.body(length, seed));
        return s.waiting.size();
    }

    int send(int end) {
        Side s = side(end);
        state(s.line.size() < 40 && !s.failed);
        int kind = 0;
        int number = s.latestSent;
        int[] body = {};
        if (s.nextAgain < s.untold.size()) {
            Sent again = s.untold.get(s.nextAgain++);
            kind = 2;
            number = again.number;
            body = again.body;
        } else if (s.untold.size() < 127 && !s.waiting.isEmpty()) {
            Sent next = new Sent();
            next.number = (s.latestSent + 1) % 128;
            next.body = s.waiting.remove(0);
            s.untold.add(next);
            s.nextAgain = s.untold.size();
            s.latestSent = next.number;
            kind = 1;
            number = next.number;
            body = next.body;
        }
        s.line.add(Frames.unit(s.latestTaken, s.bib, number, s.fib, body));
        return kind;
    }

    private static String bytesBetween(String frame) {
        String between = frame.substring(8, frame.length() - 8);
        return between.replace("111110", "11111");
    }

    private static int[] bytes(String bits) {
        int[] bytes = new int[bits.length() / 8];
        for (int i = 0; i < bytes.length; i++) {
            String lowestLast = new StringBuilder(bits.substring(8 * i, 8 * i + 8)).reverse().toString();
            bytes[i] = Integer.parseInt(lowestLast, 2);
        }
        return bytes;
    }

    private static int fault(String frame) {
        if (frame.length() < 16 || !frame.startsWith(Frames.FLAG) || !frame.endsWith(Frames.FLAG)) {
            return 1;
        }
        if (frame.substring(8, frame.length() - 8).contains("111111")) {
            return 2;
        }
        String bits = bytesBetween(frame);
        if (bits.length() % 8 != 0 || bits.length() < 40 || bits.length() > 8 * 277) {
            return 3;
        }
        int[] all = bytes(bits);
        int n = all.length;
        if (Frames.check(java.util.Arrays.copyOf(all, n - 2)) != all[n - 2] + 256 * all[n - 1]) {
            return 4;
        }
        return all[2] == (n - 5 > 63 ? 63 : n - 5) ? 0 : 5;
    }

    int take(int end) {
        Side s = side(end);
        Side other = sides[1 - end];
        state(!other.line.isEmpty() && !s.failed);
        int answer = takeFrame(s, other.line.remove(0));
        return s.failed ? answer - 10 : answer;
    }

    private int takeFrame(Side s, String frame) {
        s.units++;
        if (s.units % 256 == 0 && s.errors > 0) {
            s.errors--;
        }
        int fault = fault(frame);
        if (fault > 0) {
            s.errors++;
            s.failed = s.errors == 64;
            return -fault;
        }
        int[] unit = bytes(bytesBetween(frame));
        int bsn = unit[0] % 128;
        boolean known = bsn == s.latestTold;
        for (Sent sent : s.untold) {
            known = known || sent.number == bsn;
        }
        s.past += known ? "g" : "a";
        if (!known) {
            String latest = s.past.substring(Math.max(0, s.past.length() - 3));
            s.failed = latest.chars().filter(c -> c == 'a').count() >= 2;
            return 3;
        }
        while (s.latestTold != bsn) {
            s.latestTold = s.untold.remove(0).number;
            s.nextAgain = Math.max(0, s.nextAgain - 1);
        }
        if (unit[0] / 128 != s.fib) {
            s.fib = unit[0] / 128;
            s.nextAgain = 0;
        }
        return forward(s, unit);
    }

    private int forward(Side s, int[] unit) {
        int fsn = unit[1] % 128;
        boolean fill = unit.length == 5;
        if (unit[1] / 128 != s.bib) {
            return 0;
        }
        if (!fill && fsn == (s.latestTaken + 1) % 128) {
            s.latestTaken = fsn;
            s.taken.add(java.util.Arrays.copyOfRange(unit, 3, unit.length - 2));
            return 1;
        }
        if (fsn == s.latestTaken) {
            return 0;
        }
        s.bib = 1 - s.bib;
        return 2;
    }

    private String frame(int end, int frame) {
        Side s = side(end);
        argument(frame >= 0 && frame < s.line.size());
        return s.line.get(frame);
    }

    int flip(int end, int frame, int i) {
        StringBuilder bits = new StringBuilder(frame(end, frame));
        argument(i >= 0 && i < bits.length());
        bits.setCharAt(i, bits.charAt(i) == '0' ? '1' : '0');
        sides[end].line.set(frame, bits.toString());
        return bits.charAt(i) - '0';
    }

    int drop(int end, int frame) {
        int length = frame(end, frame).length();
        sides[end].line.remove(frame);
        return length;
    }

    int bits(int end, long w, int n, boolean fresh) {
        Side s = side(end);
        argument(n >= 1 && n <= 64);
        StringBuilder more = new StringBuilder();
        for (int i = 0; i < n; i++) {
            more.append(w >>> i & 1);
        }
        if (fresh || s.line.isEmpty()) {
            state(s.line.size() < 40);
            s.line.add(more.toString());
        } else {
            int last = s.line.size() - 1;
            state(s.line.get(last).length() + n <= 3000);
            s.line.set(last, s.line.get(last) + more);
        }
        return s.line.get(s.line.size() - 1).length();
    }

    int bit(int end, int frame, int i) {
        String bits = frame(end, frame);
        argument(i >= 0);
        return i < bits.length() ? bits.charAt(i) - '0' : LinkPair.NONE;
    }

    int taken(int end, int k, int i) {
        List<int[]> all = side(end).taken;
        argument(k >= 0 && k < all.size() && k >= all.size() - 50 && i >= 0);
        return i < all.get(k).length ? all.get(k)[i] : LinkPair.NONE;
    }

    int about(int end, int what) {
        Side s = side(end);
        argument(what >= 0 && what <= 11);
        int[] facts = {
            s.fib, s.bib, s.latestSent, s.latestTaken, s.waiting.size(), s.untold.size(),
            s.untold.size() - s.nextAgain, s.taken.size(), s.line.size(), s.errors, s.units, s.failed ? 1 : 0};
        return facts[what];
    }

    void restart(int end) {
        List<int[]> taken = side(end).taken;
        sides[end] = new Side();
        sides[end].taken = taken;
    }
}
