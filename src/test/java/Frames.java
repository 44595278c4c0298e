/** Frames made by hand, as texts of 0 and 1, and laid on a line by bits. */
final class Frames {
    static final String FLAG = "01111110";

    private Frames() {
    }

    /** The bytes that a message of put has. */
    static int[] body(int length, int seed) {
        int[] body = new int[length];
        for (int i = 0; i < length; i++) {
            body[i] = (seed + 37 * i + i / 8) % 256;
        }
        return body;
    }

    static int[] head(int bsn, int bib, int fsn, int fib, int third) {
        return new int[] {bsn + 128 * bib, fsn + 128 * fib, third};
    }

    static int[] join(int[] a, int... b) {
        int[] all = java.util.Arrays.copyOf(a, a.length + b.length);
        System.arraycopy(b, 0, all, a.length, b.length);
        return all;
    }

    static int check(int[] bytes) {
        int r = 65535;
        for (int value : bytes) {
            for (char bit : bits(value).toCharArray()) {
                r = r % 2 != bit - '0' ? (r / 2) ^ 33800 : r / 2;
            }
        }
        return 65535 - r;
    }

    static int[] checked(int[] bytes) {
        int check = check(bytes);
        return join(bytes, check % 256, check / 256);
    }

    /** A byte's bits, the lowest first. */
    static String bits(int value) {
        StringBuilder text = new StringBuilder();
        for (int i = 0; i < 8; i++) {
            text.append((value >> i) % 2);
        }
        return text.toString();
    }

    static String bits(int[] bytes) {
        StringBuilder text = new StringBuilder();
        for (int value : bytes) {
            text.append(bits(value));
        }
        return text.toString();
    }

    static String stuffed(String bits) {
        return bits.replace("11111", "111110");
    }

    /** The frame of bytes that have their check already. */
    static String frameOf(int[] bytes) {
        return FLAG + stuffed(bits(bytes)) + FLAG;
    }

    static String unit(int bsn, int bib, int fsn, int fib, int... body) {
        int third = Math.min(body.length, 63);
        return frameOf(checked(join(head(bsn, bib, fsn, fib, third), body)));
    }

    /** Lays a frame behind the others on an end's line: how many calls that took. */
    static int lay(LinkPair x, int end, String frame) {
        int calls = 0;
        for (int from = 0; from < frame.length(); from += 64) {
            int to = Math.min(frame.length(), from + 64);
            x.bits(end, word(frame.substring(from, to)), to - from, from == 0);
            calls++;
        }
        return calls;
    }

    static long word(String bits) {
        long w = 0;
        for (int i = 0; i < bits.length(); i++) {
            w |= (long) (bits.charAt(i) - '0') << i;
        }
        return w;
    }

    /** The bits of a frame of an end's line as bit tells them, up to the first NONE. */
    static String seen(LinkPair x, int end, int frame) {
        StringBuilder text = new StringBuilder();
        int next = x.bit(end, frame, 0);
        while (next != LinkPair.NONE && text.length() < 3000) {
            text.append(next);
            next = x.bit(end, frame, text.length());
        }
        return text.toString();
    }

    /** What the other end answers when it takes this frame as its next one. */
    static int layAndTake(LinkPair x, int from, String frame) {
        lay(x, from, frame);
        return x.take(1 - from);
    }

    /** Makes an end fail by two units with an abnormal BSN. */
    static void makeFail(LinkPair x, int end) {
        layAndTake(x, 1 - end, unit(60, 1, 127, 1));
        layAndTake(x, 1 - end, unit(60, 1, 127, 1));
    }
}
