/** What the tests have in common: each answer is held against the one that is due. */
final class Due {
    private static int wrong;

    private Due() {
    }

    interface Call {
        long answer();
    }

    static void is(String what, long got, long want) {
        if (got != want) {
            tell(what + " answered " + got + ", due is " + want);
        }
    }

    static void same(String what, String got, String want) {
        if (!got.equals(want)) {
            tell(what + " is " + got + ", due is " + want);
        }
    }

    static void badArgument(String what, Call call) {
        same(what, outcome(call), "throws.IllegalArgumentException");
    }

    static void badState(String what, Call call) {
        same(what, outcome(call), "throws.IllegalStateException");
    }

    /** The answer as a text, or the name of what the call threw. */
    static String outcome(Call call) {
        try {
            return Long.toString(call.answer());
        } catch (RuntimeException e) {
            return "throws." + e.getClass().getSimpleName();
        }
    }

    /** All twelve facts of an end in one text. */
    static String facts(LinkPair x, int end) {
        StringBuilder all = new StringBuilder();
        for (int what = 0; what < 12; what++) {
            all.append(what == 0 ? "" : " ").append(x.about(end, what));
        }
        return all.toString();
    }

    static void finish() {
        System.out.println(wrong == 0 ? "all answers are as due" : wrong + " answers are not as due");
        if (wrong != 0) {
            System.exit(1);
        }
    }

    private static void tell(String line) {
        wrong++;
        System.out.println(line);
    }
}
