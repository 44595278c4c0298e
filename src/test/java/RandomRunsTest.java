import java.util.Random;

/** Runs of 512 calls on new objects, each answer held against the model's. */
final class RandomRunsTest {
    private static final int RUNS = 1500;
    private static final int CALLS = 512;
    private static final int[] EDGES = {-1, 0, 1, 2, 39, 40, 50, 63, 64, 272, 273, 3000, Integer.MIN_VALUE, Integer.MAX_VALUE};

    private final Random random;
    private final LinkPair x = new LinkPair();
    private final Model model = new Model();
    /** Runs differ in how often something goes wrong on the lines. */
    private final int trouble;
    /** In some runs end 0 sends nearly all and is seldom told, so that much is kept. */
    private final boolean oneSided;
    /** In some runs little is taken, so that lines, frames and what waits become full. */
    private final boolean crowded;
    /** In some runs end 0 gets faulty frames nearly alone, so that it fails by errors. */
    private final boolean noisy;
    private final String name;
    private int calls;

    private RandomRunsTest(int run) {
        random = new Random(run);
        trouble = random.nextInt(4);
        int kind = random.nextInt(9);
        oneSided = kind < 3;
        crowded = kind == 3;
        noisy = kind == 4;
        name = "run " + run;
    }

    public static void main(String[] args) {
        for (int run = 0; run < RUNS; run++) {
            new RandomRunsTest(run).go();
        }
        Due.finish();
    }

    private void go() {
        while (calls < CALLS - 30) {
            boolean ordinary = random.nextInt(20) == 0;
            if (oneSided && !ordinary) {
                stepOfOneSide();
            } else if (crowded && !ordinary) {
                crowdedStep();
            } else if (noisy && !ordinary) {
                noisyStep();
            } else {
                step();
            }
        }
        for (int end = 0; end < 2; end++) {
            for (int what = 0; what < 12; what++) {
                about(end, what);
            }
        }
    }

    private void stepOfOneSide() {
        int kind = random.nextInt(10);
        if (kind < 4) {
            put(0, 1 + random.nextInt(5), random.nextInt(256));
        } else if (kind < 8) {
            send(0);
        } else if (random.nextInt(15) == 0) {
            drop(0, 0);
        } else {
            take(1);
        }
    }

    private void crowdedStep() {
        int kind = random.nextInt(20);
        if (kind < 6) {
            put(0, 1 + random.nextInt(272), random.nextInt(256));
        } else if (kind < 9) {
            send(0);
        } else if (kind < 12) {
            bits(0, random.nextLong(), 1 + random.nextInt(64), true);
        } else if (kind < 18) {
            bits(1, random.nextLong(), 64 - random.nextInt(20), model.about(1, 8) > 20 && random.nextInt(60) == 0);
        } else if (kind < 19) {
            drop(0, random.nextInt(42) - 1);
        } else {
            flip(1, model.about(1, 8) - 1, random.nextInt(3002) - 1);
        }
    }

    private void noisyStep() {
        int kind = random.nextInt(40);
        if (kind < 17) {
            bits(1, random.nextLong(), 1 + random.nextInt(40), true);
        } else if (kind < 37) {
            take(0);
        } else if (kind < 39) {
            send(1);
        } else if (model.about(0, 11) == 1) {
            restart(0);
        } else {
            put(0, 1, 1);
        }
    }

    private void step() {
        int end = random.nextInt(2);
        int kind = random.nextInt(100);
        if (kind < 22) {
            put(end, random.nextInt(8) == 0 ? 1 + random.nextInt(272) : 1 + random.nextInt(6), random.nextInt(256));
        } else if (kind < 52) {
            send(end);
        } else if (kind < 82) {
            take(end);
        } else if (kind < 88) {
            about(end, random.nextInt(12));
        } else if (kind < 91) {
            taken(end, model.about(end, 7) - 1 - random.nextInt(52), random.nextInt(9));
        } else if (kind < 93) {
            bit(end, random.nextInt(3), random.nextInt(90));
        } else if (kind < 94) {
            wrongCall();
        } else if (trouble > 0) {
            makeTrouble(end);
        }
    }

    private void makeTrouble(int end) {
        int kind = random.nextInt(4 + 6 * trouble);
        if (kind == 0 && random.nextInt(12) == 0) {
            restart(end);
        } else if (kind < 3) {
            flip(end, random.nextInt(3), random.nextInt(80));
        } else if (kind < 8) {
            drop(end, random.nextInt(3));
        } else if (kind < 11) {
            bits(end, random.nextLong(), 1 + random.nextInt(64), random.nextBoolean());
        } else {
            layUnit(end);
        }
    }

    /** A unit whose numbers are near those that the other end waits for. */
    private void layUnit(int end) {
        int other = 1 - end;
        int told = model.about(other, 2) - random.nextInt(model.about(other, 5) + 1);
        int bsn = told + (random.nextInt(12) == 0 ? random.nextInt(3) - 1 : 0) + 128 & 127;
        int fsn = model.about(other, 3) + random.nextInt(3) & 127;
        int bib = model.about(other, 0) ^ (random.nextInt(3) == 0 ? 1 : 0);
        int fib = model.about(other, 1) ^ (random.nextInt(5) == 0 ? 1 : 0);
        int[] body = random.nextInt(3) == 0 ? new int[0] : Frames.body(1 + random.nextInt(3), random.nextInt(256));
        String frame = Frames.unit(bsn, bib, fsn, fib, body);
        for (int from = 0; from < frame.length(); from += 64) {
            int to = Math.min(frame.length(), from + 64);
            bits(end, Frames.word(frame.substring(from, to)), to - from, from == 0);
        }
    }

    private int edge() {
        return EDGES[random.nextInt(EDGES.length)];
    }

    private void wrongCall() {
        switch (random.nextInt(9)) {
            case 0 -> put(edge(), edge(), edge());
            case 1 -> send(edge());
            case 2 -> take(edge());
            case 3 -> flip(edge(), edge(), edge());
            case 4 -> drop(edge(), edge());
            case 5 -> bits(edge(), random.nextLong(), edge(), random.nextBoolean());
            case 6 -> bit(edge(), edge(), edge());
            case 7 -> taken(edge(), edge(), edge());
            default -> about(edge(), edge());
        }
    }

    private void same(String call, Due.Call got, Due.Call want) {
        calls++;
        Due.same(name + ", call " + calls + ": " + call, Due.outcome(got), Due.outcome(want));
    }

    private void put(int end, int length, int seed) {
        same("put(" + end + ", " + length + ", " + seed + ")", () -> x.put(end, length, seed), () -> model.put(end, length, seed));
    }

    private void send(int end) {
        same("send(" + end + ")", () -> x.send(end), () -> model.send(end));
    }

    private void take(int end) {
        same("take(" + end + ")", () -> x.take(end), () -> model.take(end));
    }

    private void flip(int end, int frame, int i) {
        same("flip(" + end + ", " + frame + ", " + i + ")", () -> x.flip(end, frame, i), () -> model.flip(end, frame, i));
    }

    private void drop(int end, int frame) {
        same("drop(" + end + ", " + frame + ")", () -> x.drop(end, frame), () -> model.drop(end, frame));
    }

    private void bits(int end, long w, int n, boolean fresh) {
        same("bits(" + end + ", " + w + ", " + n + ", " + fresh + ")", () -> x.bits(end, w, n, fresh), () -> model.bits(end, w, n, fresh));
    }

    private void bit(int end, int frame, int i) {
        same("bit(" + end + ", " + frame + ", " + i + ")", () -> x.bit(end, frame, i), () -> model.bit(end, frame, i));
    }

    private void taken(int end, int k, int i) {
        same("taken(" + end + ", " + k + ", " + i + ")", () -> x.taken(end, k, i), () -> model.taken(end, k, i));
    }

    private void about(int end, int what) {
        same("about(" + end + ", " + what + ")", () -> x.about(end, what), () -> model.about(end, what));
    }

    private void restart(int end) {
        calls++;
        x.restart(end);
        model.restart(end);
    }
}
