/** Compares answers with those that are due, and ends the program with 1 if one was not. */
final class Due {
    private final String title;
    private int right;
    private int wrong;

    Due(String title) {
        this.title = title;
    }

    void is(String call, long got, long want) {
        if (got == want) {
            right++;
            return;
        }
        wrong++;
        System.out.println(title + ": " + call + " answered " + got + ", due is " + want);
    }

    /** For tables: the call is written out only if its answer is not as due. */
    void is(String where, Call call, int[] n, long got, long want) {
        if (got == want) {
            right++;
        } else {
            is(where + ": " + call.form(n), got, want);
        }
    }

    void holds(String what, boolean so) {
        is(what, so ? 1 : 0, 1);
    }

    void end() {
        System.out.println(title + ": " + right + " as due, " + wrong + " not");
        if (wrong != 0 || right == 0) {
            System.exit(1);
        }
    }
}
