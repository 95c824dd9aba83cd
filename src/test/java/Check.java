/** Counts and prints the answers that are not as due. */
final class Check {
    interface Call {
        long answer();
    }

    private final String about;
    private int wrong = 0;

    Check(String about) {
        this.about = about;
    }

    static long bit(boolean is) {
        return is ? 1 : 0;
    }

    /** What a call comes to, as a text: its answer, or the name of the very class that it throws. */
    static String outcome(Call call) {
        try {
            return Long.toString(call.answer());
        } catch (RuntimeException e) {
            return e.getClass().getSimpleName();
        }
    }

    void due(String what, long want, Call call) {
        same(what, Long.toString(want), outcome(call));
    }

    void badArgument(String what, Call call) {
        same(what, "IllegalArgumentException", outcome(call));
    }

    void badState(String what, Call call) {
        same(what, "IllegalStateException", outcome(call));
    }

    void badIndex(String what, Call call) {
        same(what, "IndexOutOfBoundsException", outcome(call));
    }

    void same(String what, String want, String got) {
        if (!want.equals(got)) {
            wrong++;
            System.out.println(about + ": " + what + " came to " + got + ", due is " + want);
        }
    }

    void end() {
        System.out.println(wrong == 0 ? "all as due" : wrong + " not as due");
        if (wrong != 0) {
            System.exit(1);
        }
    }
}
