/** The boundary cases of promises 10 to 16, sentence by sentence. */
public final class ClosestBoundsTest {
    private static final Checks CHECKS = new Checks();
    private static final Edges EDGES = new Edges(CHECKS);
    private static final int BAD = PastAndClear.BAD, NONE = PastAndClear.NONE;
    private static final int[][] VECTORS = {{0, 10}, {4, 9}, {7, 7}, {9, 4}, {10, 0}, {9, -4}, {7, -7}, {4, -9}, {0, -10},
        {-4, -9}, {-7, -7}, {-9, -4}, {-10, 0}, {-9, 4}, {-7, 7}, {-4, 9}};

    public static void main(String[] args) {
        whomOfTakes();
        whatOfTakes();
        velocitiesRoundTheCompass();
        pairsThatAreTaken();
        pairsThatAreRefused();
        whatClosestTakes();
        closestWithoutVelocity();
        closestFromDotZeroOn();
        closestJustBelowDotZero();
        closestInLowestTerms();
        closestAtTheLargest();
        riskIsLessThanSafe();
        riskByFractionsOfDistance();
        riskIsSpanAtMost();
        riskByFractionsOfTime();
        riskAtTimeZero();
        riskByNewRules();
        sectorAtOnePlace();
        sectorUpToAFourthIsAhead();
        sectorAbeam();
        sectorUpToTwiceIsAstern();
        sectorWhateverTheSpeed();
        tableOfEachTwoSectors();
        tableWithoutRisk();
        tableAtOnePlace();
        whomDutyTakes();
        worstOfNone();
        worstByTimeFirst();
        worstByDistanceThen();
        worstByNumberLast();
        CHECKS.end();
    }

    private static void due(String call, long got, long want) {
        CHECKS.due(call, got, want);
    }

    /** OWN at 0, 0 at rest, HEADING 0, and an OTHER. */
    private static PastAndClear with(int x, int y, int h, int s) {
        PastAndClear p = new PastAndClear();
        p.adds(x, y, h, s);
        return p;
    }

    // Promise 10: of

    private static void whomOfTakes() {
        EDGES.answers("10: OWN", Edges::busy, x -> x.of(0, 1), 30);
        EDGES.answers("10: the last", Edges::busy, x -> x.of(2, 0), -270);
        EDGES.answers("10: the sixth", Edges::full, x -> x.of(6, 0), 600);
        EDGES.refuses("10: -1", Edges::busy, x -> x.of(-1, 0), BAD);
        EDGES.refuses("10: one behind the last", Edges::busy, x -> x.of(3, 0), BAD);
        EDGES.refuses("10: one behind six", Edges::full, x -> x.of(7, 0), BAD);
        for (int i : Edges.FAR_OUT) EDGES.refuses("10: SHIP " + i, Edges::busy, x -> x.of(i, 0), BAD);
    }

    private static void whatOfTakes() {
        int[] want = {270, 300, 12, 3, -30, 0};
        for (int what = 0; what <= 5; what++) {
            int asked = what;
            EDGES.answers("10: what " + what, Edges::busy, x -> x.of(1, asked), want[what]);
        }
        for (int what : new int[] {-1, 6, Integer.MIN_VALUE, Integer.MAX_VALUE}) {
            EDGES.refuses("10: what " + what, Edges::busy, x -> x.of(1, what), BAD);
        }
    }

    private static void velocitiesRoundTheCompass() {
        PastAndClear x = new PastAndClear();
        for (int h = 0; h < 16; h++) {
            for (int s = 0; s <= 9; s += 9) {
                x.veers(0, h, s);
                due("10: x of VELOCITY by " + h + ", " + s, x.of(0, 4), s * VECTORS[h][0]);
                due("10: y of VELOCITY by " + h + ", " + s, x.of(0, 5), s * VECTORS[h][1]);
            }
        }
    }

    // Promises 11 to 14: 'BAD: alike, too'

    private static void pairsThatAreTaken() {
        int[][] pairs = {{0, 1}, {1, 0}, {0, 2}, {2, 0}, {1, 2}, {2, 1}};
        for (int[] p : pairs) {
            EDGES.answers("12: risk", Edges::busy, x -> x.risk(p[0], p[1]), 1);
            EDGES.answers("11: TIME below", Edges::busy, x -> x.closest(p[0], p[1], 1), 1);
        }
        EDGES.answers("11: the sixth", Edges::full, x -> x.closest(6, 5, 1) > 0 ? 1 : 0, 1);
        EDGES.answers("12: the sixth", Edges::full, x -> x.risk(5, 6), 0);
        EDGES.answers("13: the sixth", Edges::full, x -> x.sector(0, 6), 3);
        EDGES.answers("14: the sixth", Edges::full, x -> x.table(6, 0), 0);
    }

    private static void pairsThatAreRefused() {
        int far = Integer.MAX_VALUE, low = Integer.MIN_VALUE;
        int[][] pairs = {{0, 0}, {1, 1}, {2, 2}, {3, 3}, {-1, -1}, {-1, 0}, {0, -1}, {3, 0}, {0, 3}, {2, 3}, {far, 0}, {0, far}, {low, 1}, {1, low}};
        for (int[] p : pairs) {
            String who = p[0] + ", " + p[1];
            for (int what = 0; what <= 3; what++) {
                int asked = what;
                EDGES.refuses("11: closest of " + who, Edges::busy, x -> x.closest(p[0], p[1], asked), BAD);
            }
            EDGES.refuses("12: risk of " + who, Edges::busy, x -> x.risk(p[0], p[1]), BAD);
            EDGES.refuses("13: sector of " + who, Edges::busy, x -> x.sector(p[0], p[1]), BAD);
            EDGES.refuses("14: table of " + who, Edges::busy, x -> x.table(p[0], p[1]), BAD);
        }
        EDGES.refuses("11: closest of a seventh", Edges::full, x -> x.closest(0, 7, 0), BAD);
        EDGES.refuses("12: risk of a seventh", Edges::full, x -> x.risk(7, 0), BAD);
        EDGES.refuses("13: sector of a seventh", Edges::full, x -> x.sector(0, 7), BAD);
        EDGES.refuses("14: table of a seventh", Edges::full, x -> x.table(7, 6), BAD);
        EDGES.refuses("14: table of the sixth and itself", Edges::full, x -> x.table(6, 6), BAD);
    }

    // Promise 11: closest

    private static void whatClosestTakes() {
        for (int what : new int[] {-1, 4, Integer.MIN_VALUE, Integer.MAX_VALUE}) {
            EDGES.refuses("11: what " + what, Edges::busy, x -> x.closest(0, 1, what), BAD);
            EDGES.refuses("11: what " + what + " of alike ones", Edges::busy, x -> x.closest(1, 1, what), BAD);
        }
    }

    private static void dueClosest(String sentence, PastAndClear x, long... want) {
        for (int what = 0; what <= 3; what++) {
            due("11: " + sentence + ", what " + what, x.closest(0, 1, what), want[what]);
            due("11: " + sentence + ", what " + what + " the other way", x.closest(1, 0, what), want[what]);
        }
    }

    private static void closestWithoutVelocity() {
        dueClosest("both at rest", with(3, 4, 7, 0), 0, 1, 25, 1);
        PastAndClear x = with(-3, -4, 11, 9);
        x.veers(0, 11, 9);
        dueClosest("both alike", x, 0, 1, 25, 1);
        dueClosest("at rest at one place", with(0, 0, 5, 0), 0, 1, 0, 1);
        dueClosest("at one place", with(0, 0, 5, 9), 0, 1, 0, 1);
    }

    private static void closestFromDotZeroOn() {
        // V is (4, 9).
        dueClosest("DOT 0", with(90, -40, 1, 1), 0, 1, 9700, 1);
        dueClosest("DOT 1", with(97, -43, 1, 1), 0, 1, 11258, 1);
        dueClosest("straight away", with(4, 9, 1, 1), 0, 1, 97, 1);
    }

    private static void closestJustBelowDotZero() {
        // V is (4, 9), CROSS of R, V: 92 * 9 + 41 * 4 = 992.
        dueClosest("DOT -1", with(92, -41, 1, 1), 1, 97, 984064, 97);
        dueClosest("straight on", with(-4, -9, 1, 1), 1, 1, 0, 1);
        dueClosest("abeam, one step behind", with(1, -1, 0, 1), 1, 10, 1, 1);
    }

    private static void closestInLowestTerms() {
        // V is (8, 18), DOT of V, V 388. R (1, -1): DOT -10, CROSS 26.
        dueClosest("both by 2 and 4", with(1, -1, 1, 2), 5, 194, 169, 97);
        // R (-97, 0): DOT -776, CROSS -1746, squared 3048516.
        dueClosest("TIME whole, DISTANCE, too", with(-97, 0, 1, 2), 2, 1, 7857, 1);
        // R (0, -7), V (4, 9): DOT -63, CROSS 28, squared 784: nothing to divide by.
        dueClosest("neither", with(0, -7, 1, 1), 63, 97, 784, 97);
        // R (-10, 0), V (9, 4): DOT -90, V, V 97, CROSS -40.
        dueClosest("V, V is prime", with(-10, 0, 3, 1), 90, 97, 1600, 97);
        // R (-14, -14), V (7, 7): DOT -196, V, V 98, CROSS 0: 0 by 1.
        dueClosest("DISTANCE 0", with(-14, -14, 2, 1), 2, 1, 0, 1);
    }

    private static void closestAtTheLargest() {
        PastAndClear x = with(9999, 9999, 9, 1);
        x.own(-9999, -9999, 0, 0);
        // R (19998, 19998), V (-4, -9): DOT -259974, CROSS -99990, squared 9998000100.
        dueClosest("corner to corner, slowly", x, 259974, 97, 9998000100L, 97);
        PastAndClear y = with(9999, -9999, 15, 9);
        y.own(-9999, 9999, 7, 9);
        // R (19998, -19998), V (-72, 162): DOT -4679532, V, V 31428, CROSS 1799820.
        dueClosest("corner to corner, fast", y, 14443, 97, 9998000100L, 97);
        PastAndClear z = with(9999, -9999, 12, 9);
        z.own(-9999, 9999, 3, 9);
        // R (19998, -19998), V (-171, -36): DOT -2699730, V, V 30537, CROSS -4139586: no int holds its square.
        dueClosest("a large square", z, 33330, 377, 211557682116L, 377);
    }

    // Promise 12: risk: 'DISTANCE squared is less than SAFE squared, TIME SPAN at most'

    private static void dueRisk(String sentence, PastAndClear x, int want) {
        due("12: " + sentence, x.risk(0, 1), want);
        due("12: " + sentence + ", the other way", x.risk(1, 0), want);
    }

    private static void riskIsLessThanSafe() {
        dueRisk("at rest, R, R 2498", with(47, 17, 0, 0), 1);
        dueRisk("at rest, R, R 2500", with(30, 40, 0, 0), 0);
        dueRisk("at rest, R, R 2501", with(50, 1, 0, 0), 0);
        dueRisk("passing 49 off", with(49, -60, 0, 1), 1);
        dueRisk("passing 50 off", with(50, -60, 0, 1), 0);
        dueRisk("passing -50 off", with(-50, -60, 0, 1), 0);
    }

    private static void riskByFractionsOfDistance() {
        // V is (4, 9); SAFE squared times 97 is 242500, between 492 and 493 squared.
        dueRisk("CROSS 492", with(44, -24, 1, 1), 1);
        dueRisk("CROSS 493", with(45, -22, 1, 1), 0);
        PastAndClear x = with(-3, -9, 1, 1);
        x.sets(0, 1);
        dueRisk("SAFE 1, CROSS 9: 81 by 97", x, 1);
        PastAndClear y = with(-2, -7, 1, 1);
        y.sets(0, 1);
        dueRisk("SAFE 1, CROSS 10: 100 by 97", y, 0);
    }

    private static void riskIsSpanAtMost() {
        dueRisk("TIME 12", with(0, -120, 0, 1), 1);
        dueRisk("TIME 121 by 10", with(0, -121, 0, 1), 0);
        dueRisk("TIME 119 by 10", with(0, -119, 0, 1), 1);
        dueRisk("TIME 12, yet at SAFE", with(50, -120, 0, 1), 0);
        dueRisk("TIME 12, within SAFE", with(49, -120, 0, 1), 1);
    }

    private static void riskByFractionsOfTime() {
        // V is (4, 9), DOT of V, V 97.
        int[][] at = {{-6, -8}, {-4, -9}, {-2, -10}};
        int[] want = {1, 1, 0};
        for (int k = 0; k < 3; k++) {
            PastAndClear x = with(at[k][0], at[k][1], 1, 1);
            x.sets(1, 1);
            due("12: TIME above", x.closest(0, 1, 0) * 97 / x.closest(0, 1, 1), 96 + k);
            dueRisk("SPAN 1, TIME " + (96 + k) + " by 97", x, want[k]);
        }
    }

    private static void riskAtTimeZero() {
        for (int span : new int[] {1, 99}) {
            PastAndClear x = with(0, 49, 0, 9);
            x.sets(1, span);
            dueRisk("parting, yet near, SPAN " + span, x, 1);
            PastAndClear y = with(0, 50, 0, 9);
            y.sets(1, span);
            dueRisk("parting at SAFE, SPAN " + span, y, 0);
            PastAndClear z = with(0, 0, 0, 9);
            z.sets(1, span);
            z.sets(0, 1);
            dueRisk("at one place, SAFE 1, SPAN " + span, z, 1);
        }
    }

    private static void riskByNewRules() {
        int[][] rules = {{1, 0}, {999, 998}};
        for (int[] r : rules) {
            PastAndClear x = with(r[1], -20, 0, 1);
            x.sets(0, r[0]);
            dueRisk("SAFE " + r[0] + ", one less off", x, 1);
            PastAndClear y = with(r[0], -20, 0, 1);
            y.sets(0, r[0]);
            dueRisk("SAFE " + r[0] + ", as far off", y, 0);
        }
        for (int span : new int[] {1, 99}) {
            PastAndClear x = with(0, -10 * span, 0, 1);
            x.sets(1, span);
            dueRisk("SPAN " + span + ", TIME as long", x, 1);
            PastAndClear y = with(0, -10 * span - 1, 0, 1);
            y.sets(1, span);
            dueRisk("SPAN " + span + ", TIME longer", y, 0);
        }
    }

    // Promise 13: sector

    private static void dueSector(String sentence, int h, int dx, int dy, int want) {
        PastAndClear x = new PastAndClear();
        x.own(-7, 11, h, 0);
        x.adds(dx - 7, dy + 11, (h + 5) % 16, 0);
        due("13: " + sentence + " by " + h + ": " + dx + ", " + dy, x.sector(0, 1), want);
        x.own(dx - 7, dy + 11, 3, 0);
        x.drops(1);
        x.adds(-7, 11, h, 0);
        due("13: " + sentence + " by " + h + ": " + dx + ", " + dy + " from the OTHER", x.sector(1, 0), want);
    }

    /** R is 'along' times the VECTOR and 'right' times that turned to starboard. */
    private static void dueSectorBy(String sentence, int along, int right, int want) {
        for (int h = 0; h < 16; h++) {
            int ux = VECTORS[h][0], uy = VECTORS[h][1];
            dueSector(sentence, h, along * ux + right * uy, along * uy - right * ux, want);
        }
    }

    private static void sectorAtOnePlace() {
        for (int h = 0; h < 16; h++) dueSector("at one place", h, 0, 0, 0);
    }

    private static void sectorUpToAFourthIsAhead() {
        dueSectorBy("straight ahead", 1, 0, 0);
        dueSectorBy("a fourth to starboard", 4, 1, 0);
        dueSectorBy("a fourth to port", 4, -1, 0);
        dueSectorBy("a fourth to starboard, far off", 400, 100, 0);
        dueSectorBy("a fourth to port, far off", 400, -100, 0);
        dueSectorBy("just above to starboard", 400, 101, 1);
        dueSectorBy("just above to port", 400, -101, 2);
        dueSectorBy("just below to starboard", 401, 100, 0);
        dueSectorBy("just above, nearer", 399, 100, 1);
        dueSectorBy("just above, nearer, to port", 399, -100, 2);
        dueSector("by one alone", 0, 250, 1000, 0);
        dueSector("by one alone", 0, 251, 1000, 1);
        dueSector("by one alone", 0, -251, 1000, 2);
        dueSector("by one alone", 0, 250, 999, 1);
    }

    private static void sectorAbeam() {
        dueSectorBy("abeam to starboard, p 0", 0, 1, 1);
        dueSectorBy("abeam to port, p 0", 0, -1, 2);
        dueSectorBy("abeam to starboard, far off", 0, 900, 1);
        dueSectorBy("abeam to port, far off", 0, -900, 2);
        dueSector("just ahead of abeam", 0, 900, 1, 1);
        dueSector("just ahead of abeam", 0, -900, 1, 2);
        dueSector("just behind abeam", 0, 900, -1, 1);
        dueSector("just behind abeam", 0, -900, -1, 2);
    }

    private static void sectorUpToTwiceIsAstern() {
        dueSectorBy("straight astern", -1, 0, 3);
        dueSectorBy("twice to starboard", -1, 2, 3);
        dueSectorBy("twice to port", -1, -2, 3);
        dueSectorBy("twice to starboard, far off", -200, 400, 3);
        dueSectorBy("twice to port, far off", -200, -400, 3);
        dueSectorBy("just above to starboard", -200, 401, 1);
        dueSectorBy("just above to port", -200, -401, 2);
        dueSectorBy("just below to starboard", -200, 399, 3);
        dueSectorBy("just above, nearer", -199, 399, 1);
        dueSector("by one alone", 0, 1000, -500, 3);
        dueSector("by one alone", 0, 1001, -500, 1);
        dueSector("by one alone", 0, -1001, -500, 2);
        dueSector("by one alone", 0, 1000, -499, 1);
    }

    private static void sectorWhateverTheSpeed() {
        for (int h = 0; h < 16; h++) {
            PastAndClear x = with(300, 40, h, 0);
            x.veers(0, h, 0);
            int rested = x.sector(0, 1);
            x.veers(0, h, 9);
            due("13: SPEED 9 by " + h, x.sector(0, 1), rested);
            x.veers(1, h, 9);
            due("13: the OTHER's SPEED 9", x.sector(0, 1), rested);
            x.veers(1, (h + 8) % 16, 9);
            due("13: the OTHER's HEADING", x.sector(0, 1), rested);
        }
    }

    // Promise 14: table

    /** By these HEADINGS of OWN the OTHER, north of it, is AHEAD, STARBOARD, PORT, ASTERN; by those of the OTHER so is OWN. */
    private static final int[] OWN_HEADINGS = {0, 12, 4, 8}, OTHER_HEADINGS = {8, 4, 12, 0};
    private static final int[][] DUTIES = {{1, 2, 1, 1}, {1, 1, 1, 1}, {2, 2, 2, 1}, {2, 2, 2, 1}};

    private static PastAndClear facing(int m, int n, int off) {
        PastAndClear x = with(0, off, OTHER_HEADINGS[n], 0);
        x.veers(0, OWN_HEADINGS[m], 0);
        due("14: m", x.sector(0, 1), m);
        due("14: n", x.sector(1, 0), n);
        return x;
    }

    private static void tableOfEachTwoSectors() {
        for (int m = 0; m < 4; m++) {
            for (int n = 0; n < 4; n++) {
                PastAndClear x = facing(m, n, 49);
                due("14: m " + m + ", n " + n, x.table(0, 1), DUTIES[m][n]);
                due("14: m " + m + ", n " + n + ", the other way", x.table(1, 0), DUTIES[n][m]);
                due("15: no LOOK by it", x.duty(1), 0);
                x.looks();
                due("15: DUTY by a LOOK", x.duty(1), DUTIES[m][n]);
            }
        }
    }

    private static void tableWithoutRisk() {
        for (int m = 0; m < 4; m++) {
            for (int n = 0; n < 4; n++) {
                PastAndClear x = facing(m, n, 50);
                due("14: no RISK at SAFE", x.table(0, 1), 0);
                due("14: no RISK at SAFE, the other way", x.table(1, 0), 0);
                due("8: no DUTY by a LOOK", x.looks() + x.duty(1), 0);
            }
        }
    }

    private static void tableAtOnePlace() {
        for (int h = 0; h < 16; h++) {
            PastAndClear x = with(0, 0, h, 0);
            due("14: at one place", x.table(0, 1), 1);
            due("14: at one place, the other way", x.table(1, 0), 1);
        }
    }

    // Promise 15: duty

    private static void whomDutyTakes() {
        EDGES.answers("15: the first", Edges::busy, x -> x.duty(1), 1);
        EDGES.answers("15: the last", Edges::busy, x -> x.duty(2), 2);
        EDGES.answers("15: the sixth", Edges::full, x -> x.duty(6), 0);
        EDGES.refuses("15: OWN", Edges::busy, x -> x.duty(0), BAD);
        EDGES.refuses("15: -1", Edges::busy, x -> x.duty(-1), BAD);
        EDGES.refuses("15: one behind the last", Edges::busy, x -> x.duty(3), BAD);
        EDGES.refuses("15: one behind six", Edges::full, x -> x.duty(7), BAD);
        for (int i : Edges.FAR_OUT) EDGES.refuses("15: " + i, Edges::busy, x -> x.duty(i), BAD);
    }

    // Promise 16: worst

    private static void worstOfNone() {
        EDGES.answers("16: OWN alone", Edges::fresh, PastAndClear::worst, NONE);
        EDGES.answers("16: one without RISK", x -> x.adds(50, 0, 0, 0), PastAndClear::worst, NONE);
        EDGES.answers("16: one with RISK", x -> x.adds(49, 0, 0, 0), PastAndClear::worst, 1);
        EDGES.answers("16: at SPAN", x -> x.adds(0, -120, 0, 1), PastAndClear::worst, 1);
        EDGES.answers("16: beyond SPAN", x -> x.adds(0, -121, 0, 1), PastAndClear::worst, NONE);
        PastAndClear x = new PastAndClear();
        for (int i = 1; i <= 6; i++) x.adds(49 + i, 0, 0, 0);
        due("16: six without RISK", x.worst(), NONE);
        due("16: NONE is not refused", x.told(0) + x.told(1) + x.told(2), 0);
        x.drops(6);
        x.adds(49, 0, 0, 0);
        due("16: the sixth alone", x.worst(), 6);
        due("16: a DUTY is not asked for", x.duty(6), 0);
    }

    private static void worstByTimeFirst() {
        // TIME 12 and 1163 by 97, 1 by 97 less, though further off then.
        PastAndClear x = with(0, -120, 0, 1);
        x.adds(-50, -107, 1, 1);
        due("16: TIME above", x.closest(0, 2, 0), 1163);
        due("16: TIME below", x.closest(0, 2, 1), 97);
        due("16: sooner by a fraction", x.worst(), 2);
        // R (-2, 1), V (-4, -9): TIME 1 by 97 against 0.
        PastAndClear y = with(-2, 1, 9, 1);
        due("16: TIME 1 by 97", y.closest(0, 1, 0) * 1000 + y.closest(0, 1, 1), 1097);
        y.adds(40, 0, 0, 0);
        due("16: TIME 0 comes before 1 by 97", y.worst(), 2);
        // Not in RISK, though soonest: at SAFE, TIME 0.
        x.adds(50, 0, 0, 0);
        due("16: without RISK it is not asked", x.worst(), 2);
        x.adds(49, 0, 0, 0);
        due("16: with it it is", x.worst(), 4);
    }

    private static void worstByDistanceThen() {
        PastAndClear x = with(20, -60, 0, 1);
        x.adds(19, -60, 0, 1);
        due("16: as soon, nearer by one", x.worst(), 2);
        x.adds(18, -120, 0, 2);
        due("16: as soon by other numbers, nearer", x.worst(), 3);
        x.drops(3);
        x.adds(-19, 60, 8, 1);
        due("16: as near from the other side", x.worst(), 2);
        // TIME 0 each: DISTANCE squared 25 and 26.
        PastAndClear y = with(1, 5, 0, 0);
        y.adds(3, 4, 0, 0);
        due("16: TIME 0, nearer", y.worst(), 2);
    }

    private static void worstByNumberLast() {
        PastAndClear x = new PastAndClear();
        for (int i = 1; i <= 6; i++) x.adds(0, 30, 8, 1);
        due("16: six alike", x.worst(), 1);
        x.veers(1, 8, 0);
        x.own(0, 0, 0, 1);
        due("16: now closing faster", x.worst(), 2);
        PastAndClear y = with(30, 40, 0, 0);
        y.sets(0, 51);
        y.adds(40, -30, 5, 0);
        y.adds(-50, 0, 9, 0);
        due("16: alike by other places", y.worst(), 1);
        y.drops(1);
        due("16: the least of those left", y.worst(), 1);
    }
}
