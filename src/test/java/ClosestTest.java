/** Promises 10 to 16: the calls under 'closest'. */
public final class ClosestTest {
    private static final Checks CHECKS = new Checks();

    public static void main(String[] args) {
        of();
        closest();
        closestFarOff();
        risk();
        sector();
        table();
        duty();
        worst();
        worstByFractions();
        wrongPairs();
        CHECKS.end();
    }

    private static void due(String call, long got, long want) {
        CHECKS.due(call, got, want);
    }

    private static void of() {
        int[][] vectors = {{0, 10}, {4, 9}, {7, 7}, {9, 4}, {10, 0}, {9, -4}, {7, -7}, {4, -9}, {0, -10},
            {-4, -9}, {-7, -7}, {-9, -4}, {-10, 0}, {-9, 4}, {-7, 7}, {-4, 9}};
        PastAndClear x = new PastAndClear();
        x.adds(12, -34, 0, 0);
        for (int h = 0; h < 16; h++) {
            x.veers(1, h, 7);
            due("10: x of VELOCITY " + h, x.of(1, 4), 7 * vectors[h][0]);
            due("10: y of VELOCITY " + h, x.of(1, 5), 7 * vectors[h][1]);
        }
        due("10: x", x.of(1, 0), 12);
        due("10: y", x.of(1, 1), -34);
        due("10: HEADING", x.of(1, 2), 15);
        due("10: SPEED", x.of(1, 3), 7);
        long before = Checks.withoutTallies(x);
        int[][] wrong = {{-1, 0}, {2, 0}, {0, -1}, {0, 6}, {Integer.MAX_VALUE, 0}, {1, Integer.MIN_VALUE}};
        for (int[] w : wrong) CHECKS.refused(x, "10: of wrong", before, x.of(w[0], w[1]), PastAndClear.BAD);
        due("10: told", x.told(0), wrong.length);
    }

    private static void dueClosest(PastAndClear x, String what, long... want) {
        for (int w = 0; w < 4; w++) {
            due("11: " + what + " closest(0, 1, " + w + ")", x.closest(0, 1, w), want[w]);
            due("11: " + what + " closest(1, 0, " + w + ")", x.closest(1, 0, w), want[w]);
        }
    }

    private static PastAndClear two(int[] own, int[] other) {
        PastAndClear x = new PastAndClear();
        x.own(own[0], own[1], own[2], own[3]);
        x.adds(other[0], other[1], other[2], other[3]);
        return x;
    }

    private static void closest() {
        dueClosest(two(new int[] {0, 0, 0, 2}, new int[] {0, 400, 8, 2}), "head on", 10, 1, 0, 1);
        dueClosest(two(new int[] {0, 0, 0, 2}, new int[] {3, 4, 0, 2}), "side by side", 0, 1, 25, 1);
        dueClosest(two(new int[] {0, 0, 0, 0}, new int[] {5, 0, 0, 9}), "abeam, just passing", 0, 1, 25, 1);
        dueClosest(two(new int[] {0, 0, 0, 1}, new int[] {0, -10, 0, 0}), "parting", 0, 1, 100, 1);
        // R (10, -3), V (4, 9): DOT 13, parting. R (-10, 3): DOT -13, V.V 97, CROSS -10*9 - 3*4 = -102.
        dueClosest(two(new int[] {0, 0, 0, 0}, new int[] {10, -3, 1, 1}), "parting aslant", 0, 1, 109, 1);
        dueClosest(two(new int[] {0, 0, 0, 0}, new int[] {-10, 3, 1, 1}), "aslant", 13, 97, 10404, 97);
        // R (-10, -10), V (63, 63): DOT -1260, V.V 7938, CROSS 0.
        dueClosest(two(new int[] {0, 0, 0, 0}, new int[] {-10, -10, 2, 9}), "in lowest terms", 10, 63, 0, 1);
        // R (-20, 6), V (0, -20): DOT -120, V.V 400, CROSS 400, squared 160000.
        dueClosest(two(new int[] {0, 0, 0, 1}, new int[] {-20, 6, 8, 1}), "both in lowest terms", 3, 10, 400, 1);
        dueClosest(two(new int[] {7, 7, 0, 1}, new int[] {7, 7, 4, 3}), "at one place", 0, 1, 0, 1);
    }

    private static void closestFarOff() {
        PastAndClear x = two(new int[] {-9999, -9999, 0, 9}, new int[] {9999, 9999, 8, 9});
        // R (19998, 19998), V (0, -180): DOT -3599640, V.V 32400, CROSS -3599640.
        dueClosest(x, "from corner to corner", 1111, 10, 399920004L, 1);
        PastAndClear y = two(new int[] {-9999, 9999, 1, 9}, new int[] {9999, -9999, 12, 9});
        // R (19998, -19998), V (-126, -81): DOT -899910, V.V 22437, CROSS -4139586.
        long cross = -4139586L;
        long g = gcd(cross * cross, 22437);
        dueClosest(y, "a large cross", 899910 / gcd(899910, 22437), 22437 / gcd(899910, 22437), cross * cross / g, 22437 / g);
    }

    private static long gcd(long p, long q) {
        return q == 0 ? p : gcd(q, p % q);
    }

    private static void risk() {
        PastAndClear x = two(new int[] {0, 0, 0, 0}, new int[] {30, 40, 0, 0});
        due("12: at SAFE", x.risk(0, 1), 0);
        x.sets(0, 51);
        due("12: within SAFE", x.risk(0, 1), 1);
        due("12: from the other", x.risk(1, 0), 1);
        PastAndClear y = two(new int[] {0, 0, 0, 1}, new int[] {0, 120, 0, 0});
        due("12: at SPAN", y.risk(0, 1), 1);
        y.own(0, -1, 0, 1);
        due("12: just beyond SPAN", y.risk(0, 1), 0);
        y.sets(1, 13);
        due("12: a longer SPAN", y.risk(0, 1), 1);
        due("12: held ships part", two(new int[] {0, 0, 8, 9}, new int[] {0, 60, 0, 9}).risk(0, 1), 0);
        PastAndClear z = two(new int[] {0, 0, 0, 1}, new int[] {50, 100, 0, 0});
        due("12: passing at just SAFE", z.risk(0, 1), 0);
        z.sets(0, 51);
        due("12: passing within SAFE", z.risk(0, 1), 1);
    }

    private static void dueSector(int h, int dx, int dy, int want) {
        due("13: sector by " + h + " of " + dx + ", " + dy, two(new int[] {5, -5, h, 0}, new int[] {5 + dx, dy - 5, 0, 9}).sector(0, 1), want);
    }

    private static void sector() {
        dueSector(0, 0, 0, 0);
        dueSector(9, 0, 0, 0);
        dueSector(0, 0, 1, 0);
        dueSector(0, 1, 4, 0);
        dueSector(0, -1, 4, 0);
        dueSector(0, 2, 7, 1);
        dueSector(0, -2, 7, 2);
        dueSector(0, 1, 0, 1);
        dueSector(0, -1, 0, 2);
        dueSector(0, 0, -1, 3);
        dueSector(0, 2, -1, 3);
        dueSector(0, -2, -1, 3);
        dueSector(0, 3, -1, 1);
        dueSector(0, -3, -1, 2);
        dueSector(4, 0, -5, 1);
        dueSector(4, 0, 5, 2);
        dueSector(8, -5, 0, 1);
        dueSector(12, 0, 5, 1);
        dueSector(2, 5, 3, 0);
        dueSector(2, 8, 4, 1);
        dueSector(2, 4, 8, 2);
        dueSector(10, -8, -4, 1);
        dueSector(0, 9990, -5, 1);
        PastAndClear x = two(new int[] {-9999, -9999, 2, 0}, new int[] {9999, 9999, 2, 0});
        due("13: corner to corner", x.sector(0, 1), 0);
        due("13: and back", x.sector(1, 0), 3);
    }

    private static void dueTable(String what, int[] own, int[] other, int want, int wantBack) {
        PastAndClear x = two(own, other);
        due("14: " + what, x.table(0, 1), want);
        due("14: " + what + ", back", x.table(1, 0), wantBack);
    }

    private static void table() {
        dueTable("no risk", new int[] {0, 0, 0, 1}, new int[] {500, 500, 0, 1}, 0, 0);
        dueTable("head on", new int[] {0, 0, 0, 2}, new int[] {0, 400, 8, 2}, 1, 1);
        dueTable("overtaking", new int[] {0, 0, 0, 5}, new int[] {0, 100, 0, 1}, 1, 2);
        dueTable("crossing from starboard", new int[] {0, 0, 0, 3}, new int[] {300, 300, 12, 3}, 1, 2);
        dueTable("crossing from port", new int[] {0, 0, 0, 3}, new int[] {-300, 300, 4, 3}, 2, 1);
        dueTable("back to back", new int[] {0, 0, 8, 0}, new int[] {0, 10, 0, 0}, 1, 1);
        // Ahead, and the other has this one to starboard: it gives way. To port: this one does.
        dueTable("ahead of me, I to its starboard", new int[] {0, 0, 0, 3}, new int[] {0, 30, 4, 0}, 2, 1);
        dueTable("ahead of me, I to its port", new int[] {0, 0, 0, 3}, new int[] {0, 30, 12, 0}, 1, 2);
        dueTable("both to starboard", new int[] {0, 0, 0, 0}, new int[] {10, 0, 8, 0}, 1, 1);
        dueTable("both to port", new int[] {0, 0, 8, 0}, new int[] {10, 0, 0, 0}, 2, 2);
        dueTable("at one place", new int[] {0, 0, 5, 0}, new int[] {0, 0, 11, 0}, 1, 1);
    }

    private static void duty() {
        PastAndClear x = two(new int[] {0, 0, 0, 3}, new int[] {300, 300, 12, 3});
        x.adds(-300, 300, 4, 3);
        x.adds(5000, 5000, 0, 0);
        due("15: at first", x.duty(1), 0);
        x.looks();
        due("15: duty(1)", x.duty(1), 1);
        due("15: duty(2)", x.duty(2), 2);
        due("15: duty(3)", x.duty(3), 0);
        long before = Checks.withoutTallies(x);
        CHECKS.refused(x, "15: duty(0)", before, x.duty(0), PastAndClear.BAD);
        CHECKS.refused(x, "15: duty(4)", before, x.duty(4), PastAndClear.BAD);
        CHECKS.refused(x, "15: duty(-1)", before, x.duty(-1), PastAndClear.BAD);
    }

    private static void worst() {
        PastAndClear x = new PastAndClear();
        due("16: alone", x.worst(), PastAndClear.NONE);
        x.adds(500, 0, 0, 0);
        due("16: none near", x.worst(), PastAndClear.NONE);
        x.adds(0, 60, 8, 1);
        due("16: one", x.worst(), 2);
        x.adds(0, -60, 0, 2);
        due("16: sooner", x.worst(), 3);
        x.adds(30, -60, 0, 2);
        due("16: as soon, not nearer", x.worst(), 3);
        x.adds(0, -30, 0, 1);
        due("16: alike, a higher number", x.worst(), 3);
        x.drops(3);
        due("16: as soon, nearer, a higher number", x.worst(), 4);
        x.adds(49, 0, 0, 0);
        due("16: now", x.worst(), 5);
        x.sets(0, 49);
        due("16: no longer a risk", x.worst(), 4);
    }

    private static void worstByFractions() {
        // TIME 1 by 97 comes behind 0, though it is nearer then.
        PastAndClear x = two(new int[] {0, 0, 0, 0}, new int[] {2, -1, 1, 1});
        due("16: the first OTHER", x.worst(), 1);
        x.adds(40, 0, 0, 0);
        due("16: sooner by little", x.worst(), 2);
        // TIME 1 by 2 each; DISTANCE squared 97 (by 194 squared by 388) and 100 or 81 (by 10 or 9 times 10 squared by 100).
        PastAndClear y = two(new int[] {0, 0, 0, 0}, new int[] {5, -13, 1, 2});
        due("16: TIME above", y.closest(0, 1, 0), 1);
        due("16: TIME below", y.closest(0, 1, 1), 2);
        due("16: DISTANCE squared", y.closest(0, 1, 2), 97);
        y.adds(10, -5, 0, 1);
        due("16: as soon, further, other fractions", y.worst(), 1);
        y.adds(9, -5, 0, 1);
        due("16: as soon, nearer, other fractions", y.worst(), 3);
        y.drops(1);
        y.drops(2);
        y.adds(5, -13, 1, 2);
        due("16: the other way round", y.worst(), 2);
    }

    private static void wrongPairs() {
        PastAndClear x = two(new int[] {0, 0, 0, 3}, new int[] {300, 300, 12, 3});
        long before = Checks.withoutTallies(x);
        int[][] wrong = {{0, 0}, {1, 1}, {-1, 0}, {0, -1}, {2, 0}, {0, 2}, {7, 7}, {Integer.MIN_VALUE, 1}, {1, Integer.MAX_VALUE}};
        for (int[] w : wrong) {
            CHECKS.refused(x, "11: closest wrong", before, x.closest(w[0], w[1], 0), PastAndClear.BAD);
            CHECKS.refused(x, "12: risk wrong", before, x.risk(w[0], w[1]), PastAndClear.BAD);
            CHECKS.refused(x, "13: sector wrong", before, x.sector(w[0], w[1]), PastAndClear.BAD);
            CHECKS.refused(x, "14: table wrong", before, x.table(w[0], w[1]), PastAndClear.BAD);
        }
        CHECKS.refused(x, "11: closest -1", before, x.closest(0, 1, -1), PastAndClear.BAD);
        CHECKS.refused(x, "11: closest 4", before, x.closest(0, 1, 4), PastAndClear.BAD);
        due("11: told", x.told(0), 4 * wrong.length + 2);
    }
}
