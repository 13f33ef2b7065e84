/** The edges of a sentence: what is taken last, what is refused first, and what either leaves behind. */
final class Edges {
    /** Brings a new object to where a call is tried. */
    interface Ready { void make(PastAndClear x); }
    interface Call { long on(PastAndClear x); }

    static final int[] FAR_OUT = {Integer.MIN_VALUE, Integer.MAX_VALUE};

    private final Checks checks;

    Edges(Checks checks) {
        this.checks = checks;
    }

    static PastAndClear made(Ready ready) {
        PastAndClear x = new PastAndClear();
        ready.make(x);
        return x;
    }

    /** OWN alone, nothing done yet. */
    static void fresh(PastAndClear x) { }

    /** Two OTHERS, DUTIES 1 and 2, four STATES, a text, one refusal of each kind but FULL. */
    static void busy(PastAndClear x) {
        x.back();
        x.drops(9);
        x.own(0, 0, 0, 3);
        x.adds(300, 300, 12, 3);
        x.adds(-300, 300, 4, 3);
        x.steps(1);
        Checks.type(x, "s0 60;n1;b;");
    }

    /** Seven SHIPS, five STATES, a text of 150 bytes, one refusal of each kind. */
    static void full(PastAndClear x) {
        busy(x);
        x.wipes();
        for (int i = 3; i <= 6; i++) x.adds(100 * i, -100 * i, i, i);
        x.adds(0, 0, 0, 0);
        x.looks();
        Checks.type(x, "b;".repeat(75));
    }

    /** Refused so, counted once under its kind; ships, THE TEXT and every STATE are as without the call. */
    void refuses(String sentence, Ready ready, Call call, int code) {
        int kind = PastAndClear.BAD - code;
        PastAndClear x = made(ready), twin = made(ready);
        long before = x.digest();
        checks.due(sentence, call.on(x), code);
        checks.due(sentence + ": told once more, all else as it was", x.digest() - before, weight(x, kind));
        for (int left = 0; left <= 5; left++) {
            checks.due(sentence + ": back", x.back(), twin.back());
            checks.due(sentence + ": a STATE as it was", x.digest() - twin.digest(), weight(x, kind));
        }
        PastAndClear y = made(ready), other = made(ready);
        call.on(y);
        checks.due(sentence + ": THE TEXT as it was", y.does(), other.does());
        checks.due(sentence + ": does what it did", y.digest() - other.digest(), weight(y, kind));
    }

    /** Taken, and told S: one STATE more (5 at most), by which all is again as it was. */
    void leavesState(String sentence, Ready ready, Call call, long want) {
        PastAndClear x = made(ready);
        int states = x.told(4);
        long before = x.digest();
        checks.due(sentence, call.on(x), want);
        checks.due(sentence + ": STATES", x.told(4), Math.min(5, states + 1));
        checks.due(sentence + ": back", x.back(), Math.min(4, states));
        checks.due(sentence + ": all as it was", x.digest() - before, states == 5 ? -weight(x, 4) : 0);
    }

    /** Answered, and nothing becomes other by it. */
    void answers(String sentence, Ready ready, Call call, long want) {
        PastAndClear x = made(ready);
        long before = x.digest();
        checks.due(sentence, call.on(x), want);
        checks.due(sentence + ": changes nothing", x.digest(), before);
    }

    /** By how much digest() grows, if its value number 'index' is one more: 31 for each value behind it. */
    private static long weight(PastAndClear x, int index) {
        int others = x.count(0);
        int values = 5 + 4 + 5 * (others + 1) + 8 * others + 1;
        long weight = 1;
        for (int behind = index + 1; behind < values; behind++) weight *= 31;
        return weight;
    }
}
