/** Counts the answers that are not as due, and ends a test by them. */
final class Checks {
    private int wrong = 0;
    private int asked = 0;

    void due(String call, long got, long want) {
        asked++;
        if (got == want) return;
        wrong++;
        if (wrong <= 50) System.out.println(call + " answered " + got + ", due is " + want);
    }

    void dueTrue(String what, boolean holds) {
        due(what, holds ? 1 : 0, 1);
    }

    /** A call that must be refused so, with all else that can be asked as it was. */
    void refused(PastAndClear x, String call, long before, long got, int want) {
        due(call, got, want);
        due(call + " and all else", withoutTallies(x), before);
    }

    /** What getters show, but for how often refused. */
    static long withoutTallies(PastAndClear x) {
        long h = 7;
        h = 31 * h + x.told(3);
        h = 31 * h + x.told(4);
        for (int what = 0; what <= 3; what++) h = 31 * h + x.count(what);
        for (int i = 0; i <= x.count(0); i++) {
            for (int what = 0; what <= 5; what++) h = 31 * h + x.of(i, what);
            if (i > 0) h = 31 * h + x.duty(i);
        }
        return h;
    }

    static void type(PastAndClear x, String text) {
        for (int i = 0; i < text.length(); i++) x.type(text.charAt(i));
    }

    /** does() of a fresh text. */
    static int does(PastAndClear x, String text) {
        x.wipes();
        type(x, text);
        return x.does();
    }

    void end() {
        System.out.println(wrong == 0 ? asked + " answers are as due" : wrong + " of " + asked + " answers are not as due");
        if (wrong != 0) System.exit(1);
    }
}
