/** Promises 1 to 9: the new object and the calls under 'ships'. */
public final class ShipsTest {
    private static final Checks CHECKS = new Checks();

    public static void main(String[] args) {
        newObject();
        adds();
        own();
        drops();
        veers();
        sets();
        steps();
        stepsAtTheEdge();
        looks();
        obeys();
        statesOfEachCall();
        CHECKS.end();
    }

    private static void due(String call, long got, long want) {
        CHECKS.due(call, got, want);
    }

    private static void newObject() {
        PastAndClear x = new PastAndClear();
        for (int what = 0; what <= 5; what++) due("1: of(0, " + what + ")", x.of(0, what), 0);
        due("1: count(0)", x.count(0), 0);
        due("1: count(1)", x.count(1), 50);
        due("1: count(2)", x.count(2), 12);
        due("1: count(3)", x.count(3), 0);
        for (int what = 0; what <= 4; what++) due("1: told(" + what + ")", x.told(what), 0);
        due("1: worst()", x.worst(), PastAndClear.NONE);
    }

    private static void adds() {
        PastAndClear x = new PastAndClear();
        due("2: adds at a corner", x.adds(9999, -9999, 15, 9), 1);
        due("2: adds at the other", x.adds(-9999, 9999, 0, 0), 2);
        due("2: of x", x.of(1, 0), 9999);
        due("2: of y", x.of(1, 1), -9999);
        due("2: of heading", x.of(1, 2), 15);
        due("2: of speed", x.of(1, 3), 9);
        due("2: duty", x.duty(1), 0);
        int[][] wrong = {{10000, 0, 0, 0}, {-10000, 0, 0, 0}, {0, 10000, 0, 0}, {0, -10000, 0, 0},
            {0, 0, -1, 0}, {0, 0, 16, 0}, {0, 0, 0, -1}, {0, 0, 0, 10}, {Integer.MIN_VALUE, 0, 0, 0}, {0, 0, Integer.MAX_VALUE, 0}};
        long before = Checks.withoutTallies(x);
        for (int[] w : wrong) CHECKS.refused(x, "2: adds out of range", before, x.adds(w[0], w[1], w[2], w[3]), PastAndClear.BAD);
        due("2: told BAD", x.told(0), wrong.length);
        for (int i = 3; i <= 6; i++) due("2: adds " + i, x.adds(i, i, i, i), i);
        before = Checks.withoutTallies(x);
        CHECKS.refused(x, "2: adds an eighth", before, x.adds(0, 0, 0, 0), PastAndClear.FULL);
        CHECKS.refused(x, "2: adds an eighth, wrong", before, x.adds(0, 0, 16, 0), PastAndClear.BAD);
        due("2: told FULL", x.told(2), 1);
        due("2: told BAD once more", x.told(0), wrong.length + 1);
    }

    private static void own() {
        PastAndClear x = new PastAndClear();
        due("3: own", x.own(0, 0, 0, 2), 0);
        x.adds(0, 400, 8, 2);
        x.adds(300, 300, 12, 3);
        x.veers(0, 0, 3);
        x.steps(1);
        due("3: a duty ahead of own", x.duty(1), 1);
        due("3: another", x.duty(2), 1);
        due("3: own with others", x.own(-7, 8, 9, 1), 2);
        due("3: duty gone", x.duty(1), 0);
        due("3: the other gone", x.duty(2), 0);
        due("3: count(3) gone", x.count(3), 0);
        due("3: of x", x.of(0, 0), -7);
        due("3: of y", x.of(0, 1), 8);
        due("3: of heading", x.of(0, 2), 9);
        due("3: of speed", x.of(0, 3), 1);
        long before = Checks.withoutTallies(x);
        CHECKS.refused(x, "3: own x", before, x.own(10000, 0, 0, 0), PastAndClear.BAD);
        CHECKS.refused(x, "3: own y", before, x.own(0, -10000, 0, 0), PastAndClear.BAD);
        CHECKS.refused(x, "3: own h", before, x.own(0, 0, 16, 0), PastAndClear.BAD);
        CHECKS.refused(x, "3: own s", before, x.own(0, 0, 0, -1), PastAndClear.BAD);
    }

    private static void drops() {
        PastAndClear x = new PastAndClear();
        x.own(0, 0, 0, 2);
        x.adds(5000, 1, 1, 1);
        x.adds(0, 400, 8, 2);
        x.adds(-5000, 3, 3, 3);
        x.looks();
        due("4: duty ahead of drops", x.duty(2), 1);
        long before = Checks.withoutTallies(x);
        CHECKS.refused(x, "4: drops OWN", before, x.drops(0), PastAndClear.BAD);
        CHECKS.refused(x, "4: drops none", before, x.drops(4), PastAndClear.BAD);
        CHECKS.refused(x, "4: drops below", before, x.drops(-1), PastAndClear.BAD);
        due("4: drops(1)", x.drops(1), 2);
        due("4: duty comes along", x.duty(1), 1);
        due("4: duty behind", x.duty(2), 0);
        due("4: of(1, 1)", x.of(1, 1), 400);
        due("4: of(2, 0)", x.of(2, 0), -5000);
        due("4: drops the last", x.drops(2), 1);
        due("4: drops the only", x.drops(1), 0);
        due("4: adds again", x.adds(0, 400, 8, 2), 1);
        due("4: the new one's duty", x.duty(1), 0);
    }

    private static void veers() {
        PastAndClear x = new PastAndClear();
        x.own(1, 2, 4, 9);
        x.adds(3, 4, 15, 7);
        due("5: veers(0)", x.veers(0, 8, 1), 148);
        due("5: veers(1)", x.veers(1, 0, 0), 127);
        due("5: veers(0) again", x.veers(0, 15, 9), 24);
        due("5: heading", x.of(0, 2), 15);
        due("5: speed", x.of(0, 3), 9);
        due("5: place stays", x.of(0, 0), 1);
        long before = Checks.withoutTallies(x);
        int[][] wrong = {{-1, 0, 0}, {2, 0, 0}, {0, -1, 0}, {0, 16, 0}, {1, 0, -1}, {1, 0, 10}};
        for (int[] w : wrong) CHECKS.refused(x, "5: veers wrong", before, x.veers(w[0], w[1], w[2]), PastAndClear.BAD);
        PastAndClear y = new PastAndClear();
        y.own(0, 0, 0, 2);
        y.adds(0, 400, 8, 2);
        y.looks();
        y.veers(0, 4, 2);
        due("5: a duty stays through a turn", y.duty(1), 1);
    }

    private static void sets() {
        PastAndClear x = new PastAndClear();
        due("6: sets(0, 999)", x.sets(0, 999), 50);
        due("6: sets(0, 1)", x.sets(0, 1), 999);
        due("6: sets(1, 99)", x.sets(1, 99), 12);
        due("6: sets(1, 1)", x.sets(1, 1), 99);
        due("6: SAFE", x.count(1), 1);
        due("6: SPAN", x.count(2), 1);
        long before = Checks.withoutTallies(x);
        int[][] wrong = {{0, 0}, {0, 1000}, {0, -5}, {1, 0}, {1, 100}, {-1, 5}, {2, 5}, {Integer.MAX_VALUE, 5}};
        for (int[] w : wrong) CHECKS.refused(x, "6: sets wrong", before, x.sets(w[0], w[1]), PastAndClear.BAD);
    }

    private static void steps() {
        PastAndClear x = new PastAndClear();
        x.own(0, 0, 3, 2);
        x.adds(1000, 0, 13, 1);
        due("7: steps(60)", x.steps(60), 0);
        due("7: of(0, 0)", x.of(0, 0), 1080);
        due("7: of(0, 1)", x.of(0, 1), 480);
        due("7: of(1, 0)", x.of(1, 0), 460);
        due("7: of(1, 1)", x.of(1, 1), 240);
        due("7: count(3)", x.count(3), 60);
        due("7: told(4)", x.told(4), 3);
        long before = Checks.withoutTallies(x);
        CHECKS.refused(x, "7: steps(0)", before, x.steps(0), PastAndClear.BAD);
        CHECKS.refused(x, "7: steps(61)", before, x.steps(61), PastAndClear.BAD);
        CHECKS.refused(x, "7: steps(-1)", before, x.steps(-1), PastAndClear.BAD);

        // A duty that comes up within the run and is over at its end: looked at step by step, not just last.
        PastAndClear y = new PastAndClear();
        y.own(0, 0, 0, 2);
        y.adds(0, 100, 0, 0);
        due("7: met after one step", y.steps(1), 2);
        due("7: past, not yet clear", y.steps(6), 2);
        due("7: past and clear", y.steps(1), 0);
        y.back();
        y.back();
        due("7: all in one", y.steps(8), 0);

        // A duty of 2 taken on in the first step stays, though at the last step the table would say 1.
        PastAndClear z = new PastAndClear();
        z.own(0, 0, 0, 3);
        z.adds(-300, 300, 4, 3);
        due("7: held", z.steps(1), 0);
        due("7: held as", z.duty(1), 2);
        z.veers(1, 8, 3);
        z.veers(0, 12, 3);
        due("7: the table now", z.table(0, 1), 1);
        due("7: held still", z.steps(1), 0);
        due("7: held still as", z.duty(1), 2);
    }

    private static void stepsAtTheEdge() {
        int[] headings = {0, 4, 8, 12};
        for (int h : headings) {
            PastAndClear x = new PastAndClear();
            int dx = x.veers(0, h, 1) + x.of(0, 4), dy = x.of(0, 5);
            due("7: own ahead of the edge", x.own(dx / 10 * 9979, dy / 10 * 9979, h, 1), 0);
            due("7: up to the edge", x.steps(2), 0);
            due("7: at it", Math.abs(x.of(0, 0) + x.of(0, 1)), 9999);
            long before = Checks.withoutTallies(x);
            CHECKS.refused(x, "7: beyond it", before, x.steps(1), PastAndClear.NO);
            x.back();
            before = Checks.withoutTallies(x);
            CHECKS.refused(x, "7: beyond it in the last of three", before, x.steps(3), PastAndClear.NO);
            CHECKS.refused(x, "7: beyond it and wrong", before, x.steps(61), PastAndClear.BAD);
            due("7: told NO", x.told(1), 2);
        }
        PastAndClear y = new PastAndClear();
        y.adds(0, 0, 0, 0);
        y.adds(0, 9990, 0, 1);
        due("7: an OTHER beyond it", y.steps(1), PastAndClear.NO);
    }

    private static void looks() {
        PastAndClear x = new PastAndClear();
        x.own(0, 0, 0, 3);
        x.adds(300, 300, 12, 3);
        x.adds(-300, 300, 4, 3);
        x.adds(0, 400, 8, 3);
        due("8: looks", x.looks(), 2 + 8);
        due("8: duty(1)", x.duty(1), 1);
        due("8: duty(2)", x.duty(2), 2);
        due("8: duty(3)", x.duty(3), 1);
        due("8: no step", x.count(3), 0);
        due("8: nobody moves", x.of(0, 1), 0);
        x.veers(0, 4, 0);
        x.veers(1, 0, 9);
        due("8: held without risk while closing or near", x.risk(0, 1), 0);
        // R is (300, 300), V (0, 90): they part, far off, so the duty is over.
        due("8: past and clear", x.looks(), 8);
        due("8: duty(1) over", x.duty(1), 0);
        due("8: duty(2) held", x.duty(2), 2);

        // Past, at just SAFE and one less.
        PastAndClear y = new PastAndClear();
        y.adds(30, 40, 0, 0);
        due("8: at SAFE there is no risk", y.looks(), 0);
        y.sets(0, 51);
        due("8: one less is", y.looks(), 2);
        due("8: still near", y.looks(), 2);
        y.sets(0, 50);
        due("8: at SAFE it is clear", y.looks(), 0);
        y.sets(0, 51);
        y.looks();
        y.sets(0, 50);
        y.veers(1, 8, 1);
        due("8: far, yet closing", y.looks(), 2);
    }

    private static void obeys() {
        PastAndClear x = new PastAndClear();
        x.own(0, 0, 5, 2);
        due("9: none is to be given way to", x.obeys(), 5);
        x.adds(0, 400, 8, 2);
        x.veers(0, 0, 2);
        due("9: not looked yet", x.obeys(), 0);
        x.looks();
        due("9: obeys", x.obeys(), 1);
        due("9: heading", x.of(0, 2), 1);
        due("9: speed", x.of(0, 3), 2);

        PastAndClear stop = stopped();
        due("9: stop advised", stop.advice(0), 16);
        due("9: stop", stop.obeys(), 16);
        due("9: stopped", stop.of(0, 3), 0);
        due("9: heading stays", stop.of(0, 2), 3);

        PastAndClear none = new PastAndClear();
        none.own(0, 0, 7, 3);
        none.adds(0, 0, 7, 3);
        none.looks();
        due("9: no way out", none.obeys(), 17);
        due("9: heading stays at 17", none.of(0, 2), 7);
        due("9: speed stays at 17", none.of(0, 3), 3);
    }

    /** Ringed by six ships at rest, 200 off: no heading is clear at any speed, but at rest OWN is. */
    static PastAndClear stopped() {
        PastAndClear x = new PastAndClear();
        x.own(0, 0, 3, 2);
        x.sets(0, 150);
        x.sets(1, 99);
        int[][] ring = {{0, 200}, {173, 100}, {173, -100}, {0, -200}, {-173, -100}, {-173, 100}};
        for (int[] r : ring) x.adds(r[0], r[1], 0, 0);
        x.looks();
        return x;
    }

    private static void statesOfEachCall() {
        PastAndClear x = new PastAndClear();
        x.looks();
        due("S: looks", x.told(4), 1);
        x.obeys();
        due("S: obeys", x.told(4), 2);
        x.sets(0, 50);
        due("S: sets to the same", x.told(4), 3);
        x.veers(0, 0, 0);
        due("S: veers to the same", x.told(4), 4);
        x.steps(1);
        due("S: steps", x.told(4), 5);
        x.adds(0, 0, 0, 0);
        due("S: five at most", x.told(4), 5);
        PastAndClear y = new PastAndClear();
        y.own(0, 0, 0, 0);
        y.adds(1, 1, 1, 1);
        y.drops(1);
        due("S: own, adds, drops", y.told(4), 3);
        y.drops(1);
        y.steps(99);
        due("S: not by refused ones", y.told(4), 3);
    }
}
