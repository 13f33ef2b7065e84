/** Promises 17 to 20: the calls under 'turns'. */
public final class TurnsTest {
    private static final Checks CHECKS = new Checks();

    public static void main(String[] args) {
        clear();
        blocked();
        adviceForOwn();
        adviceForAnother();
        adviceFindsTheOneWay();
        adviceTakesTheFirst();
        adviceWrong();
        count();
        CHECKS.end();
    }

    private static void due(String call, long got, long want) {
        CHECKS.due(call, got, want);
    }

    private static PastAndClear headOn() {
        PastAndClear x = new PastAndClear();
        x.own(0, 0, 0, 2);
        x.adds(0, 400, 8, 2);
        return x;
    }

    private static void clear() {
        PastAndClear x = headOn();
        due("17: as it goes", x.clear(0, 0, 2), 0);
        due("17: a turn", x.clear(0, 1, 2), 1);
        due("17: slower, so later than SPAN", x.clear(0, 0, 1), 1);
        due("17: the other's", x.clear(1, 8, 2), 0);
        due("17: the other's turn", x.clear(1, 9, 2), 1);
        due("17: nothing is changed", x.of(0, 2), 0);
        x.adds(150, 200, 12, 1);
        due("17: a third in the way", x.clear(0, 1, 2), 0);
        due("17: alone", new PastAndClear().clear(0, 15, 9), 1);
        long before = Checks.withoutTallies(x);
        int[][] wrong = {{-1, 0, 0}, {3, 0, 0}, {0, -1, 0}, {0, 16, 0}, {0, 0, -1}, {0, 0, 10}};
        for (int[] w : wrong) CHECKS.refused(x, "17: clear wrong", before, x.clear(w[0], w[1], w[2]), PastAndClear.BAD);
    }

    private static void blocked() {
        PastAndClear x = headOn();
        due("18: head on", x.blocked(1), 1);
        x.adds(0, 49, 0, 0);
        due("18: near, at rest", x.blocked(2), 0xffff);
        x.adds(100, 0, 0, 0);
        // Towards (100, 0) at 20 a step: within 50 by 3 to 5 alone (2: 100 * 7 / 9.9 is 70 off).
        due("18: abeam, at rest", x.blocked(3), 1 << 3 | 1 << 4 | 1 << 5);
        x.veers(0, 4, 0);
        due("18: with no speed", x.blocked(3), 0);
        long before = Checks.withoutTallies(x);
        CHECKS.refused(x, "18: blocked(0)", before, x.blocked(0), PastAndClear.BAD);
        CHECKS.refused(x, "18: blocked(4)", before, x.blocked(4), PastAndClear.BAD);
        CHECKS.refused(x, "18: blocked(-1)", before, x.blocked(-1), PastAndClear.BAD);
    }

    private static void adviceForOwn() {
        PastAndClear x = headOn();
        due("19: by DUTY, not by table", x.advice(0), 0);
        x.looks();
        due("19: to starboard", x.advice(0), 1);
        x.obeys();
        due("19: its own heading is not among the turns", x.advice(0), 2);
        x.veers(1, 8, 9);
        x.sets(0, 999);
        due("19: no way out", x.advice(0), 17);
        PastAndClear held = new PastAndClear();
        held.own(0, 0, 0, 3);
        held.adds(-300, 300, 4, 3);
        held.looks();
        due("19: HOLD needs no turn", held.advice(0), 0);
        due("19: stop", ShipsTest.stopped().advice(0), 16);
    }

    private static void adviceForAnother() {
        PastAndClear x = headOn();
        due("19: another by the table, not looked", x.advice(1), 9);
        x.veers(0, 8, 2);
        x.own(0, 0, 0, 3);
        x.drops(1);
        x.adds(-300, 300, 4, 3);
        due("19: another must give way", x.advice(1), 5);
        x.veers(0, 8, 3);
        due("19: no risk", x.advice(1), 4);
        x.adds(-260, 300, 4, 0);
        due("19: by its duty to another OTHER", x.advice(1), firstClear(x, 1, 4, 3));
    }

    private static int firstClear(PastAndClear x, int i, int h, int s) {
        for (int t = 1; t <= 8; t++) if (x.clear(i, (h + t) % 16, s) == 1) return (h + t) % 16;
        for (int t = 1; t <= 7; t++) if (x.clear(i, (h + 16 - t) % 16, s) == 1) return (h + 16 - t) % 16;
        return x.clear(i, h, 0) == 1 ? 16 : 17;
    }

    /** Five ships at rest all round, each in the way of three headings: one heading is left, whichever turn it takes. */
    private static void adviceFindsTheOneWay() {
        for (int way = 0; way < 16; way++) {
            for (int h = 0; h < 16; h++) {
                PastAndClear x = new PastAndClear();
                x.sets(0, 100);
                for (int off = 2; off <= 14; off += 3) {
                    int to = (way + off) % 16;
                    x.veers(0, to, 1);
                    x.adds(20 * x.of(0, 4), 20 * x.of(0, 5), to, 0);
                }
                x.own(0, 0, (way + 8) % 16, 3);
                CHECKS.dueTrue("19: overtaking", x.looks() != 0);
                x.veers(0, h, 3);
                due("19: one way left, " + way + " from " + h, x.advice(0), h == way ? 16 : way);
            }
        }
    }

    /** Of two ways left the one to starboard comes first, then the smaller turn. */
    private static void adviceTakesTheFirst() {
        int[][] ring = {{0, 200}, {141, 141}, {200, 0}, {141, -141}, {0, -200}, {-141, -141}, {-200, 0}, {-141, 141}};
        for (int out = 0; out < 256; out++) {
            for (int h = 0; h < 16; h++) {
                PastAndClear x = new PastAndClear();
                x.own(0, 0, h, 3);
                x.sets(0, 90);
                for (int k = 0; k < 8; k++) if ((out >> k & 1) == 0) x.adds(ring[k][0], ring[k][1], 0, 0);
                due("19: ring " + out + " heading " + h, x.advice(0), h);
                int want = x.looks() == 0 ? h : firstClear(x, 0, h, 3);
                due("19: ring " + out + " heading " + h + ", looked", x.advice(0), want);
            }
        }
    }

    private static void adviceWrong() {
        PastAndClear x = headOn();
        long before = Checks.withoutTallies(x);
        CHECKS.refused(x, "19: advice(-1)", before, x.advice(-1), PastAndClear.BAD);
        CHECKS.refused(x, "19: advice(2)", before, x.advice(2), PastAndClear.BAD);
        CHECKS.refused(x, "19: advice far out", before, x.advice(Integer.MAX_VALUE), PastAndClear.BAD);
    }

    private static void count() {
        PastAndClear x = headOn();
        x.sets(0, 77);
        x.sets(1, 33);
        x.steps(3);
        x.looks();
        x.steps(4);
        due("20: OTHERS", x.count(0), 1);
        due("20: SAFE", x.count(1), 77);
        due("20: SPAN", x.count(2), 33);
        due("20: STEPS", x.count(3), 7);
        x.veers(0, 1, 1);
        due("20: STEPS through a turn", x.count(3), 7);
        x.own(0, 0, 0, 0);
        due("20: STEPS since own", x.count(3), 0);
        x.steps(2);
        Checks.does(x, "n 3;");
        due("20: STEPS by orders, too", x.count(3), 5);
        Checks.does(x, "n 3; o 0 0 0 0; n 1;");
        due("20: STEPS since own as an order", x.count(3), 1);
        long before = Checks.withoutTallies(x);
        CHECKS.refused(x, "20: count(-1)", before, x.count(-1), PastAndClear.BAD);
        CHECKS.refused(x, "20: count(4)", before, x.count(4), PastAndClear.BAD);
    }
}
