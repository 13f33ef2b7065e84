/** The boundary cases of promises 17 to 20, sentence by sentence. */
public final class TurnsBoundsTest {
    private static final Checks CHECKS = new Checks();
    private static final Edges EDGES = new Edges(CHECKS);
    private static final int BAD = PastAndClear.BAD, NO = PastAndClear.NO;

    public static void main(String[] args) {
        whomClearTakes();
        coursesClearTakes();
        clearAlone();
        clearAtSafeAndSpan();
        clearOfEachOther();
        clearForAnOther();
        whomBlockedTakes();
        blockedByNoneAndByAll();
        blockedBitByBit();
        blockedAtSafeAndSpan();
        whomAdviceTakes();
        adviceIfNoneIsOne();
        adviceOneFurther();
        adviceOneFurtherThoughItIsClearAsItGoes();
        adviceEightFurtherBeforeOneBack();
        adviceOneBackNext();
        adviceSevenBackLast();
        adviceStop();
        adviceNoWayOut();
        adviceAtRest();
        adviceForAnOtherByTheTable();
        adviceForAnOtherByAnyOther();
        whatCountTakes();
        countsAtFirst();
        countOfOthersEmptyAndFull();
        stepsSinceOwn();
        stepsOfRefusedCalls();
        CHECKS.end();
    }

    private static void due(String call, long got, long want) {
        CHECKS.due(call, got, want);
    }

    private static PastAndClear with(int x, int y, int h, int s) {
        PastAndClear p = new PastAndClear();
        p.adds(x, y, h, s);
        return p;
    }

    // Promise 17: clear

    private static void whomClearTakes() {
        EDGES.answers("17: OWN", Edges::busy, x -> x.clear(0, 8, 3), 1);
        EDGES.answers("17: the last", Edges::busy, x -> x.clear(2, 12, 3), 1);
        EDGES.answers("17: the sixth", Edges::full, x -> x.clear(6, 6, 6), 1);
        EDGES.refuses("17: -1", Edges::busy, x -> x.clear(-1, 0, 0), BAD);
        EDGES.refuses("17: one behind the last", Edges::busy, x -> x.clear(3, 0, 0), BAD);
        EDGES.refuses("17: one behind six", Edges::full, x -> x.clear(7, 0, 0), BAD);
        for (int i : Edges.FAR_OUT) EDGES.refuses("17: " + i, Edges::busy, x -> x.clear(i, 0, 0), BAD);
    }

    private static void coursesClearTakes() {
        EDGES.answers("17: HEADING 0, SPEED 0", Edges::fresh, x -> x.clear(0, 0, 0), 1);
        EDGES.answers("17: HEADING 15, SPEED 9", Edges::fresh, x -> x.clear(0, 15, 9), 1);
        for (int h : new int[] {-1, 16, Integer.MIN_VALUE, Integer.MAX_VALUE}) {
            EDGES.refuses("17: HEADING " + h, Edges::busy, x -> x.clear(0, h, 0), BAD);
        }
        for (int s : new int[] {-1, 10, Integer.MIN_VALUE, Integer.MAX_VALUE}) {
            EDGES.refuses("17: SPEED " + s, Edges::busy, x -> x.clear(0, 0, s), BAD);
        }
    }

    private static void clearAlone() {
        PastAndClear x = new PastAndClear();
        x.sets(0, 999);
        x.sets(1, 99);
        for (int h = 0; h < 16; h++) due("17: alone", x.clear(0, h, 9), 1);
    }

    private static void clearAtSafeAndSpan() {
        due("17: passing at SAFE", with(50, 60, 0, 0).clear(0, 0, 1), 1);
        due("17: passing one nearer", with(49, 60, 0, 0).clear(0, 0, 1), 0);
        due("17: at SPAN", with(0, 120, 0, 0).clear(0, 0, 1), 0);
        due("17: just beyond SPAN", with(0, 121, 0, 0).clear(0, 0, 1), 1);
        due("17: at rest at SAFE", with(30, 40, 0, 0).clear(0, 7, 0), 1);
        due("17: at rest within SAFE", with(47, 17, 0, 0).clear(0, 7, 0), 0);
        due("17: away from within SAFE", with(0, 49, 0, 0).clear(0, 8, 9), 0);
        due("17: away from SAFE", with(0, 50, 0, 0).clear(0, 8, 9), 1);
    }

    private static void clearOfEachOther() {
        for (int near = 1; near <= 6; near++) {
            PastAndClear x = new PastAndClear();
            for (int i = 1; i <= 6; i++) x.adds(i == near ? 0 : 3000 * (i - 3), i == near ? 100 : 5000, 0, 0);
            due("17: OTHER " + near + " in the way", x.clear(0, 0, 5), 0);
            due("17: out of its way", x.clear(0, 8, 5), 1);
        }
    }

    private static void clearForAnOther() {
        PastAndClear x = with(0, 100, 0, 0);
        x.adds(1000, 100, 0, 0);
        due("17: an OTHER towards OWN", x.clear(1, 8, 1), 0);
        due("17: an OTHER away from OWN", x.clear(1, 0, 1), 1);
        due("17: an OTHER towards another", x.clear(1, 4, 9), 0);
        due("17: it is not in its own way", x.clear(2, 0, 0), 1);
        due("17: HEADING stays", x.of(1, 2), 0);
        due("17: SPEED stays", x.of(1, 3), 0);
    }

    // Promise 18: blocked

    private static void whomBlockedTakes() {
        EDGES.answers("18: the first", x -> x.adds(0, 0, 0, 0), x -> x.blocked(1), 0xffff);
        EDGES.answers("18: the sixth", Edges::full, x -> x.blocked(6), 0);
        EDGES.refuses("18: OWN", Edges::busy, x -> x.blocked(0), BAD);
        EDGES.refuses("18: -1", Edges::busy, x -> x.blocked(-1), BAD);
        EDGES.refuses("18: one behind the last", Edges::busy, x -> x.blocked(3), BAD);
        EDGES.refuses("18: one behind six", Edges::full, x -> x.blocked(7), BAD);
        for (int i : Edges.FAR_OUT) EDGES.refuses("18: " + i, Edges::busy, x -> x.blocked(i), BAD);
    }

    private static void blockedByNoneAndByAll() {
        due("18: far off", with(5000, 5000, 0, 0).blocked(1), 0);
        PastAndClear near = with(0, 49, 0, 0);
        near.veers(0, 3, 9);
        due("18: within SAFE", near.blocked(1), 0xffff);
        PastAndClear rest = with(0, 60, 0, 0);
        due("18: SPEED 0, at rest", rest.blocked(1), 0);
        PastAndClear met = with(0, 60, 8, 1);
        due("18: SPEED 0, it comes", met.blocked(1), 0xffff);
    }

    private static void blockedBitByBit() {
        for (int h = 0; h < 16; h++) {
            PastAndClear x = new PastAndClear();
            x.veers(0, h, 2);
            x.adds(10 * x.of(0, 4), 10 * x.of(0, 5), 0, 0);
            for (int now = 0; now < 16; now += 5) {
                x.veers(0, now, 2);
                due("18: straight at it by " + h + " alone, going " + now, x.blocked(1), 1 << h);
            }
        }
    }

    private static void blockedAtSafeAndSpan() {
        PastAndClear x = with(0, 120, 0, 0);
        x.veers(0, 8, 1);
        due("18: at SPAN", x.blocked(1) & 1, 1);
        PastAndClear y = with(0, 121, 0, 0);
        y.veers(0, 8, 1);
        due("18: just beyond SPAN", y.blocked(1) & 1, 0);
        PastAndClear z = with(49, 60, 0, 0);
        z.veers(0, 8, 1);
        due("18: passing within SAFE", z.blocked(1) & 1, 1);
        PastAndClear w = with(50, 60, 0, 0);
        w.veers(0, 8, 1);
        due("18: passing at SAFE", w.blocked(1) & 1, 0);
    }

    // Promise 19: advice

    private static void whomAdviceTakes() {
        EDGES.answers("19: OWN", Edges::fresh, x -> x.advice(0), 0);
        EDGES.answers("19: the sixth", Edges::full, x -> x.advice(6), 6);
        EDGES.refuses("19: -1", Edges::busy, x -> x.advice(-1), BAD);
        EDGES.refuses("19: one behind the last", Edges::busy, x -> x.advice(3), BAD);
        EDGES.refuses("19: one behind six", Edges::full, x -> x.advice(7), BAD);
        for (int i : Edges.FAR_OUT) EDGES.refuses("19: " + i, Edges::busy, x -> x.advice(i), BAD);
    }

    private static void adviceIfNoneIsOne() {
        for (int h = 0; h < 16; h++) {
            PastAndClear x = new PastAndClear();
            x.veers(0, h, 9);
            due("19: alone", x.advice(0), h);
            x.adds(0, 0, 0, 0);
            due("19: a RISK, DUTY 0", x.advice(0), h);
        }
        PastAndClear y = with(0, 10, 8, 0);
        y.veers(0, 8, 0);
        y.looks();
        due("19: DUTY 2", y.duty(1), 2);
        due("19: by 2 alone", y.advice(0), 8);
    }

    /**
     * OWN going h at SPEED 3, with a DUTY of 1, and ships at rest 200 off by these turns from h;
     * with SAFE 100 each is in the way of its own HEADING and the ones beside it.
     */
    private static PastAndClear fenced(int h, int... turns) {
        PastAndClear x = new PastAndClear();
        x.sets(0, 100);
        for (int turn : turns) {
            int to = (h + turn) & 15;
            x.veers(0, to, 1);
            x.adds(20 * x.of(0, 4), 20 * x.of(0, 5), to, 0);
        }
        x.own(0, 0, (h + turns[0]) & 15, 3);
        CHECKS.dueTrue("19: OWN overtakes", x.looks() != 0);
        x.veers(0, h, 3);
        return x;
    }

    private static void adviceOneFurther() {
        for (int h = 0; h < 16; h++) due("19: 1 further than " + h, fenced(h, -4).advice(0), (h + 1) % 16);
    }

    private static void adviceOneFurtherThoughItIsClearAsItGoes() {
        PastAndClear x = fenced(15, 8);
        due("19: clear as it goes", x.clear(0, 15, 3), 1);
        due("19: 1 further than 15 is 0", x.advice(0), 0);
    }

    private static void adviceEightFurtherBeforeOneBack() {
        for (int h = 0; h < 16; h++) {
            PastAndClear x = fenced(h, 2, 4, 6);
            due("19: 7 further is not clear", x.clear(0, (h + 7) % 16, 3), 0);
            due("19: 1 back is clear", x.clear(0, (h + 15) % 16, 3), 1);
            due("19: 8 further than " + h, x.advice(0), (h + 8) % 16);
        }
    }

    private static void adviceOneBackNext() {
        for (int h = 0; h < 16; h++) {
            PastAndClear x = fenced(h, 2, 4, 7);
            due("19: 8 further is not clear", x.clear(0, (h + 8) % 16, 3), 0);
            due("19: 2 back is clear", x.clear(0, (h + 14) % 16, 3), 1);
            due("19: 1 back from " + h, x.advice(0), (h + 15) % 16);
        }
    }

    private static void adviceSevenBackLast() {
        for (int h = 0; h < 16; h++) {
            PastAndClear x = fenced(h, 1, 4, 7, 11, 14);
            due("19: 8 further is not clear", x.clear(0, (h + 8) % 16, 3), 0);
            due("19: 6 back is not clear", x.clear(0, (h + 10) % 16, 3), 0);
            due("19: 7 back from " + h, x.advice(0), (h + 9) % 16);
        }
    }

    private static void adviceStop() {
        for (int h = 0; h < 16; h++) {
            // Not even as it goes, and then as it goes alone, which is not asked.
            PastAndClear x = fenced(h, 2, 5, 8, 11, 14, 0);
            due("19: as it goes it is not clear", x.clear(0, h, 3), 0);
            due("19: at rest it is", x.clear(0, h, 0), 1);
            due("19: stop, going " + h, x.advice(0), 16);
            PastAndClear y = fenced(h, 2, 5, 8, 11, 14);
            due("19: clear as it goes alone", y.clear(0, h, 3), 1);
            due("19: stop all the same, going " + h, y.advice(0), 16);
        }
    }

    private static void adviceNoWayOut() {
        // At rest it is clear of five ships at SAFE, but a sixth comes on.
        PastAndClear x = fenced(0, 2, 5, 8, 11, 14);
        due("19: 16 at first", x.advice(0), 16);
        x.adds(0, 300, 8, 9);
        due("19: at rest it is not clear", x.clear(0, 0, 0), 0);
        due("19: no way out", x.advice(0), 17);
        PastAndClear y = with(0, 0, 0, 0);
        y.looks();
        due("19: at one place", y.advice(0), 17);
    }

    private static void adviceAtRest() {
        // With SPEED 0 all HEADINGS are alike: clear by the first, or by none.
        PastAndClear x = with(0, 60, 8, 1);
        x.looks();
        due("19: at rest, it comes", x.advice(0), 17);
        x.veers(1, 8, 0);
        due("19: DUTY 1 still", x.duty(1), 1);
        due("19: at rest, it stays", x.advice(0), 1);
        x.veers(0, 15, 0);
        due("19: at rest, HEADING 15", x.advice(0), 0);
    }

    private static void adviceForAnOtherByTheTable() {
        PastAndClear x = with(0, 400, 8, 2);
        x.veers(0, 0, 2);
        due("19: OWN by its DUTY, 0", x.advice(0), 0);
        due("19: the OTHER by the TABLE, 1", x.advice(1), 9);
        x.looks();
        x.veers(0, 8, 2);
        due("19: OWN by its DUTY, 1", x.advice(0), 9);
        due("19: the OTHER by the TABLE, 0", x.advice(1), 8);
        // Head on by 15 and 7, VECTORS (-4, 9) and (4, -9).
        PastAndClear y = with(160, -360, 15, 2);
        y.veers(0, 7, 2);
        due("19: 1 further than 15 is 0", y.advice(1), 0);
        y.own(160, -360, 15, 2);
        y.drops(1);
        y.adds(0, 0, 7, 2);
        due("19: 1 further than 7 is 8", y.advice(1), 8);
    }

    private static void adviceForAnOtherByAnyOther() {
        // OTHER 1 meets each of the other five in turn; OWN is far off.
        for (int met = 2; met <= 6; met++) {
            PastAndClear x = new PastAndClear();
            x.own(9000, 9000, 0, 0);
            x.adds(0, 0, 0, 2);
            for (int i = 2; i <= 6; i++) x.adds(i == met ? 0 : -3000, i == met ? 400 : 1000 * i, 8, 2);
            due("19: OTHER 1 meets " + met, x.advice(1), 1);
            due("19: and that one it", x.advice(met), 9);
            due("19: not so OWN", x.advice(0), 0);
        }
    }

    // Promise 20: count

    private static void whatCountTakes() {
        int[] want = {2, 50, 12, 1};
        for (int what = 0; what <= 3; what++) {
            int asked = what;
            EDGES.answers("20: what " + what, Edges::busy, x -> x.count(asked), want[what]);
        }
        for (int what : new int[] {-1, 4, Integer.MIN_VALUE, Integer.MAX_VALUE}) {
            EDGES.refuses("20: what " + what, Edges::busy, x -> x.count(what), BAD);
        }
    }

    private static void countsAtFirst() {
        int[] want = {0, 50, 12, 0};
        for (int what = 0; what <= 3; what++) due("20: at first " + what, new PastAndClear().count(what), want[what]);
    }

    private static void countOfOthersEmptyAndFull() {
        due("20: none", new PastAndClear().count(0), 0);
        due("20: six", Edges.made(Edges::full).count(0), 6);
    }

    private static void stepsSinceOwn() {
        PastAndClear x = new PastAndClear();
        x.steps(60);
        due("20: STEPS without own", x.count(3), 60);
        x.steps(60);
        due("20: STEPS on and on", x.count(3), 120);
        x.own(0, 0, 0, 0);
        due("20: since own", x.count(3), 0);
        x.steps(1);
        due("20: one since own", x.count(3), 1);
        x.looks();
        x.veers(0, 1, 1);
        x.adds(0, 0, 0, 0);
        x.drops(1);
        due("20: no STEP by others", x.count(3), 1);
        for (int n = 0; n < 4; n++) x.back();
        due("20: nor by going back over them", x.count(3), 1);
        x.back();
        due("20: back over the step", x.count(3), 0);
        PastAndClear y = new PastAndClear();
        y.steps(7);
        y.own(1, 1, 1, 1);
        y.back();
        due("20: back over own", y.count(3), 7);
    }

    private static void stepsOfRefusedCalls() {
        PastAndClear x = new PastAndClear();
        x.own(0, 9979, 0, 1);
        x.steps(2);
        due("20: BAD steps", x.steps(61), BAD);
        due("20: NO steps", x.steps(1), NO);
        due("20: BAD own", x.own(0, 0, 16, 0), BAD);
        due("20: STEPS as they were", x.count(3), 2);
        due("20: an ORDER that ends all", Checks.does(x, "o0 0 0 0;n5;n0;"), -1002);
        due("20: STEPS as they were still", x.count(3), 2);
        due("20: ORDERS", Checks.does(x, "o0 0 0 0;n5;"), 2);
        due("20: STEPS by ORDERS, since the ORDER o", x.count(3), 5);
    }
}
