/** The boundary cases of promises 1 to 9, sentence by sentence. */
public final class ShipsBoundsTest {
    private static final Checks CHECKS = new Checks();
    private static final Edges EDGES = new Edges(CHECKS);
    private static final int BAD = PastAndClear.BAD, NO = PastAndClear.NO, FULL = PastAndClear.FULL;

    public static void main(String[] args) {
        aNewObjectHasOwnAlone();
        aNewObjectsDigest();
        placesOfAdds();
        headingsAndSpeedsOfAdds();
        neverMoreThanSevenShips();
        badComesBeforeFull();
        aNewOtherHasDutyZero();
        placesOfOwn();
        headingsAndSpeedsOfOwn();
        ownLeavesNoDuties();
        ownAnswersHowManyOthers();
        whomDropsTakes();
        thoseBehindAreOneLess();
        dropsOfTheLastOne();
        whomVeersTakes();
        headingsAndSpeedsOfVeers();
        veersAnswersWhatWas();
        veersLeavesDuties();
        rulesOfSets();
        valuesOfSets();
        setsAnswersWhatWas();
        stepsFromOneToSixty();
        noneLeavesTheSea();
        noneLeavesInAnyOfTheSteps();
        badComesBeforeNo();
        stepsLookOneByOne();
        stepsMoveThenLook();
        bitsOfThoseToGiveWayTo();
        looksWithNobody();
        pastFromDotZeroOn();
        clearFromSafeSquaredOn();
        holdIsOverTheSameWay();
        aDutyStaysThoughTheTableSaysOther();
        obeysTurnsRoundTheCompass();
        obeysSixteenStops();
        obeysSeventeenDoesNothing();
        obeysWithoutDuty();
        callsToldS();
        the512thCall();
        CHECKS.end();
    }

    private static void due(String call, long got, long want) {
        CHECKS.due(call, got, want);
    }

    // Promise 1: 'As told; OWN alone.'

    private static void aNewObjectHasOwnAlone() {
        EDGES.answers("1: OWN is SHIP 0", Edges::fresh, x -> x.of(0, 0), 0);
        EDGES.refuses("1: no SHIP 1 to ask of", Edges::fresh, x -> x.of(1, 0), BAD);
        EDGES.refuses("1: no SHIP 1 to veer", Edges::fresh, x -> x.veers(1, 0, 0), BAD);
        EDGES.refuses("1: no OTHER 1 to drop", Edges::fresh, x -> x.drops(1), BAD);
        EDGES.refuses("1: no OTHER 1 for a duty", Edges::fresh, x -> x.duty(1), BAD);
        EDGES.refuses("1: no OTHER 1 to be blocked by", Edges::fresh, x -> x.blocked(1), BAD);
        EDGES.refuses("1: no SHIP 1 to advise", Edges::fresh, x -> x.advice(1), BAD);
        EDGES.refuses("1: no SHIP 1 to be clear", Edges::fresh, x -> x.clear(1, 0, 0), BAD);
        EDGES.refuses("1: no SHIP 1 to come closest", Edges::fresh, x -> x.closest(0, 1, 0), BAD);
        EDGES.refuses("1: no STATE", Edges::fresh, PastAndClear::back, NO);
        EDGES.answers("1: the TEXT is empty", Edges::fresh, PastAndClear::does, -10);
    }

    private static void aNewObjectsDigest() {
        long[] values = {0, 0, 0, 0, 0, 0, 50, 12, 0, 0, 0, 0, 0, 0, -10001};
        long h = 1934;
        for (long v : values) h = 31 * h + v;
        due("1: digest of a new object", new PastAndClear().digest(), h);
    }

    // Promise 2: adds

    private static void placesOfAdds() {
        for (int edge : new int[] {-9999, 9999}) {
            EDGES.leavesState("2: x " + edge, Edges::busy, x -> x.adds(edge, 0, 0, 0), 3);
            EDGES.leavesState("2: y " + edge, Edges::busy, x -> x.adds(0, edge, 0, 0), 3);
            PastAndClear x = new PastAndClear();
            x.adds(edge, -edge, 0, 0);
            due("2: its x", x.of(1, 0), edge);
            due("2: its y", x.of(1, 1), -edge);
        }
        for (int edge : new int[] {-10000, 10000, Integer.MIN_VALUE, Integer.MAX_VALUE}) {
            EDGES.refuses("2: x " + edge, Edges::busy, x -> x.adds(edge, 0, 0, 0), BAD);
            EDGES.refuses("2: y " + edge, Edges::busy, x -> x.adds(0, edge, 0, 0), BAD);
        }
    }

    private static void headingsAndSpeedsOfAdds() {
        EDGES.leavesState("2: HEADING 0", Edges::busy, x -> x.adds(0, 0, 0, 5), 3);
        EDGES.leavesState("2: HEADING 15", Edges::busy, x -> x.adds(0, 0, 15, 5), 3);
        EDGES.leavesState("2: SPEED 0", Edges::busy, x -> x.adds(0, 0, 5, 0), 3);
        EDGES.leavesState("2: SPEED 9", Edges::busy, x -> x.adds(0, 0, 5, 9), 3);
        for (int h : new int[] {-1, 16, Integer.MIN_VALUE, Integer.MAX_VALUE}) {
            EDGES.refuses("2: HEADING " + h, Edges::busy, x -> x.adds(0, 0, h, 0), BAD);
        }
        for (int s : new int[] {-1, 10, Integer.MIN_VALUE, Integer.MAX_VALUE}) {
            EDGES.refuses("2: SPEED " + s, Edges::busy, x -> x.adds(0, 0, 0, s), BAD);
        }
    }

    private static void neverMoreThanSevenShips() {
        PastAndClear x = new PastAndClear();
        for (int i = 1; i <= 6; i++) due("2: number of OTHER " + i, x.adds(i, i, i, i), i);
        due("2: a seventh OTHER", x.adds(7, 7, 7, 7), FULL);
        due("2: six OTHERS stay", x.count(0), 6);
        due("2: the sixth is as it was", x.of(6, 0), 6);
        EDGES.refuses("2: FULL changes nothing", Edges::full, y -> y.adds(1, 2, 3, 4), FULL);
        x.drops(2);
        due("2: room again for one", x.adds(8, 8, 8, 8), 6);
        due("2: for no more", x.adds(9, 9, 9, 9), FULL);
    }

    private static void badComesBeforeFull() {
        EDGES.refuses("2: BAD x, seven SHIPS", Edges::full, x -> x.adds(10000, 0, 0, 0), BAD);
        EDGES.refuses("2: BAD y, seven SHIPS", Edges::full, x -> x.adds(0, -10000, 0, 0), BAD);
        EDGES.refuses("2: BAD HEADING, seven SHIPS", Edges::full, x -> x.adds(0, 0, 16, 0), BAD);
        EDGES.refuses("2: BAD SPEED, seven SHIPS", Edges::full, x -> x.adds(0, 0, 0, 10), BAD);
    }

    private static void aNewOtherHasDutyZero() {
        PastAndClear x = new PastAndClear();
        x.adds(0, 0, 0, 0);
        due("2: a RISK at once", x.risk(0, 1), 1);
        due("2: yet DUTY 0", x.duty(1), 0);
        x.looks();
        due("2: DUTY by a LOOK", x.duty(1), 1);
        x.drops(1);
        x.adds(0, 0, 0, 0);
        due("2: DUTY 0 where one with DUTY 1 was", x.duty(1), 0);
    }

    // Promise 3: own

    private static void placesOfOwn() {
        for (int edge : new int[] {-9999, 9999}) {
            EDGES.leavesState("3: x " + edge, Edges::busy, x -> x.own(edge, 0, 0, 0), 2);
            EDGES.leavesState("3: y " + edge, Edges::busy, x -> x.own(0, edge, 0, 0), 2);
            PastAndClear x = new PastAndClear();
            x.own(edge, -edge, 0, 0);
            due("3: its x", x.of(0, 0), edge);
            due("3: its y", x.of(0, 1), -edge);
        }
        for (int edge : new int[] {-10000, 10000, Integer.MIN_VALUE, Integer.MAX_VALUE}) {
            EDGES.refuses("3: x " + edge, Edges::busy, x -> x.own(edge, 0, 0, 0), BAD);
            EDGES.refuses("3: y " + edge, Edges::busy, x -> x.own(0, edge, 0, 0), BAD);
        }
    }

    private static void headingsAndSpeedsOfOwn() {
        EDGES.leavesState("3: HEADING 0", Edges::busy, x -> x.own(0, 0, 0, 5), 2);
        EDGES.leavesState("3: HEADING 15", Edges::busy, x -> x.own(0, 0, 15, 5), 2);
        EDGES.leavesState("3: SPEED 0", Edges::busy, x -> x.own(0, 0, 5, 0), 2);
        EDGES.leavesState("3: SPEED 9", Edges::busy, x -> x.own(0, 0, 5, 9), 2);
        for (int h : new int[] {-1, 16, Integer.MIN_VALUE, Integer.MAX_VALUE}) {
            EDGES.refuses("3: HEADING " + h, Edges::busy, x -> x.own(0, 0, h, 0), BAD);
        }
        for (int s : new int[] {-1, 10, Integer.MIN_VALUE, Integer.MAX_VALUE}) {
            EDGES.refuses("3: SPEED " + s, Edges::busy, x -> x.own(0, 0, 0, s), BAD);
        }
    }

    private static void ownLeavesNoDuties() {
        PastAndClear x = new PastAndClear();
        for (int i = 1; i <= 6; i++) x.adds(0, i, 0, 0);
        due("3: all six have a DUTY", x.looks(), 0b1111110);
        x.own(0, 0, 0, 0);
        for (int i = 1; i <= 6; i++) due("3: DUTY " + i + " gone, though OWN is where it was", x.duty(i), 0);
        due("3: no RISK went by it", x.risk(0, 6), 1);
    }

    private static void ownAnswersHowManyOthers() {
        EDGES.leavesState("3: none", Edges::fresh, x -> x.own(1, 2, 3, 4), 0);
        EDGES.leavesState("3: six", Edges::full, x -> x.own(1, 2, 3, 4), 6);
        EDGES.leavesState("3: all as it was", Edges::fresh, x -> x.own(0, 0, 0, 0), 0);
    }

    // Promise 4: drops

    private static void whomDropsTakes() {
        EDGES.refuses("4: OWN", Edges::busy, x -> x.drops(0), BAD);
        EDGES.refuses("4: -1", Edges::busy, x -> x.drops(-1), BAD);
        EDGES.refuses("4: one behind the last", Edges::busy, x -> x.drops(3), BAD);
        EDGES.refuses("4: one behind six", Edges::full, x -> x.drops(7), BAD);
        for (int i : Edges.FAR_OUT) EDGES.refuses("4: " + i, Edges::busy, x -> x.drops(i), BAD);
        EDGES.leavesState("4: the first", Edges::busy, x -> x.drops(1), 1);
        EDGES.leavesState("4: the last", Edges::busy, x -> x.drops(2), 1);
        EDGES.leavesState("4: the sixth", Edges::full, x -> x.drops(6), 5);
    }

    private static void thoseBehindAreOneLess() {
        for (int gone = 1; gone <= 6; gone++) {
            PastAndClear x = new PastAndClear();
            // Of OTHERS 1 to 6 the even ones are near and get a DUTY, the odd ones are far off.
            for (int i = 1; i <= 6; i++) x.adds(i % 2 == 0 ? i : 1000 + i, -i, i, 0);
            x.looks();
            due("4: drops(" + gone + ")", x.drops(gone), 5);
            for (int i = 1; i <= 5; i++) {
                int was = i < gone ? i : i + 1;
                due("4: x of " + i, x.of(i, 0), was % 2 == 0 ? was : 1000 + was);
                due("4: y of " + i, x.of(i, 1), -was);
                due("4: HEADING of " + i, x.of(i, 2), was);
                due("4: it has a DUTY as it had: " + i, Math.min(1, x.duty(i)), was % 2 == 0 ? 1 : 0);
            }
            due("4: no sixth", x.of(6, 0), BAD);
        }
    }

    private static void dropsOfTheLastOne() {
        PastAndClear x = new PastAndClear();
        x.adds(5, 5, 5, 5);
        due("4: none is left", x.drops(1), 0);
        due("4: OTHERS", x.count(0), 0);
        due("4: none to drop", x.drops(1), BAD);
        due("4: STATES", x.told(4), 2);
    }

    // Promise 5: veers

    private static void whomVeersTakes() {
        EDGES.leavesState("5: OWN", Edges::busy, x -> x.veers(0, 1, 1), 48);
        EDGES.leavesState("5: the last", Edges::busy, x -> x.veers(2, 1, 1), 52);
        EDGES.leavesState("5: the sixth", Edges::full, x -> x.veers(6, 1, 1), 102);
        EDGES.refuses("5: -1", Edges::busy, x -> x.veers(-1, 1, 1), BAD);
        EDGES.refuses("5: one behind the last", Edges::busy, x -> x.veers(3, 1, 1), BAD);
        EDGES.refuses("5: one behind six", Edges::full, x -> x.veers(7, 1, 1), BAD);
        for (int i : Edges.FAR_OUT) EDGES.refuses("5: " + i, Edges::busy, x -> x.veers(i, 1, 1), BAD);
    }

    private static void headingsAndSpeedsOfVeers() {
        for (int i = 0; i <= 1; i++) {
            int ship = i, was = i == 0 ? 48 : 60;
            EDGES.leavesState("5: HEADING 0, SPEED 0", Edges::busy, x -> x.veers(ship, 0, 0), was);
            EDGES.leavesState("5: HEADING 15, SPEED 9", Edges::busy, x -> x.veers(ship, 15, 9), was);
            for (int h : new int[] {-1, 16, Integer.MIN_VALUE, Integer.MAX_VALUE}) {
                EDGES.refuses("5: HEADING " + h, Edges::busy, x -> x.veers(ship, h, 0), BAD);
            }
            for (int s : new int[] {-1, 10, Integer.MIN_VALUE, Integer.MAX_VALUE}) {
                EDGES.refuses("5: SPEED " + s, Edges::busy, x -> x.veers(ship, 0, s), BAD);
            }
        }
    }

    private static void veersAnswersWhatWas() {
        PastAndClear x = new PastAndClear();
        due("5: at first 0", x.veers(0, 15, 0), 0);
        due("5: HEADING alone", x.veers(0, 0, 9), 15);
        due("5: SPEED alone", x.veers(0, 15, 9), 144);
        due("5: the most", x.veers(0, 15, 9), 159);
        due("5: STATES, the like one, too", x.told(4), 4);
    }

    private static void veersLeavesDuties() {
        PastAndClear x = Edges.made(Edges::busy);
        x.veers(0, 8, 9);
        x.veers(1, 4, 9);
        x.veers(2, 12, 9);
        due("5: DUTY 1 stays", x.duty(1), 1);
        due("5: DUTY 2 stays", x.duty(2), 2);
    }

    // Promise 6: sets

    private static void rulesOfSets() {
        EDGES.leavesState("6: k 0", Edges::busy, x -> x.sets(0, 7), 50);
        EDGES.leavesState("6: k 1", Edges::busy, x -> x.sets(1, 7), 12);
        for (int k : new int[] {-1, 2, Integer.MIN_VALUE, Integer.MAX_VALUE}) {
            EDGES.refuses("6: k " + k, Edges::busy, x -> x.sets(k, 7), BAD);
        }
    }

    private static void valuesOfSets() {
        EDGES.leavesState("6: SAFE 1", Edges::busy, x -> x.sets(0, 1), 50);
        EDGES.leavesState("6: SAFE 999", Edges::busy, x -> x.sets(0, 999), 50);
        EDGES.leavesState("6: SPAN 1", Edges::busy, x -> x.sets(1, 1), 12);
        EDGES.leavesState("6: SPAN 99", Edges::busy, x -> x.sets(1, 99), 12);
        for (int v : new int[] {-1, 0, 1000, Integer.MIN_VALUE, Integer.MAX_VALUE}) {
            EDGES.refuses("6: SAFE " + v, Edges::busy, x -> x.sets(0, v), BAD);
        }
        for (int v : new int[] {-1, 0, 100, 999, Integer.MIN_VALUE, Integer.MAX_VALUE}) {
            EDGES.refuses("6: SPAN " + v, Edges::busy, x -> x.sets(1, v), BAD);
        }
    }

    private static void setsAnswersWhatWas() {
        PastAndClear x = new PastAndClear();
        x.sets(0, 1);
        x.sets(1, 99);
        due("6: SAFE, not SPAN", x.count(1), 1);
        due("6: SPAN, not SAFE", x.count(2), 99);
        due("6: SAFE was", x.sets(0, 999), 1);
        due("6: SPAN was", x.sets(1, 1), 99);
        due("6: the like one", x.sets(1, 1), 1);
        due("6: leaves a STATE, too", x.told(4), 5);
    }

    // Promise 7: steps

    private static void stepsFromOneToSixty() {
        EDGES.leavesState("7: 1", Edges::fresh, x -> x.steps(1), 0);
        EDGES.leavesState("7: 60", Edges::fresh, x -> x.steps(60), 0);
        for (int k : new int[] {-1, 0, 61, Integer.MIN_VALUE, Integer.MAX_VALUE}) {
            EDGES.refuses("7: " + k, Edges::fresh, x -> x.steps(k), BAD);
            EDGES.refuses("7: " + k + " with OTHERS", Edges::busy, x -> x.steps(k), BAD);
        }
        PastAndClear x = new PastAndClear();
        x.own(-2700, 2700, 6, 9);
        x.steps(1);
        due("7: x after one", x.of(0, 0), -2637);
        due("7: y after one", x.of(0, 1), 2637);
        x.steps(60);
        due("7: x after 60 more", x.of(0, 0), 1143);
        due("7: y after 60 more", x.of(0, 1), -1143);
        due("7: STEPS", x.count(3), 61);
    }

    /** SHIP i, the last of those there, so far from the edge to which h leads. */
    private static void towardsTheEdge(PastAndClear x, int i, int h, int off) {
        int[] east = {0, 1, 0, -1}, north = {1, 0, -1, 0};
        int ax = east[h / 4] * (9999 - off), ay = north[h / 4] * (9999 - off);
        if (i == 0) x.own(ax, ay, h, 1);
        for (int k = 1; k <= i; k++) x.adds(k == i ? ax : 0, k == i ? ay : 0, h, k == i ? 1 : 0);
    }

    private static void noneLeavesTheSea() {
        for (int h = 0; h < 16; h += 4) {
            for (int i = 0; i <= 6; i += 3) {
                int heading = h, ship = i;
                String who = "7: SHIP " + i + " by " + h;
                PastAndClear x = Edges.made(y -> towardsTheEdge(y, ship, heading, 20));
                due(who + ": steps to 9999", x.steps(2) >= 0 ? 1 : 0, 1);
                due(who + ": is there", Math.abs(x.of(ship, 0) + x.of(ship, 1)), 9999);
                EDGES.refuses(who + ": to 10000", y -> towardsTheEdge(y, ship, heading, 19), y -> y.steps(2), NO);
                EDGES.refuses(who + ": from 9999", y -> towardsTheEdge(y, ship, heading, 0), y -> y.steps(1), NO);
            }
        }
        PastAndClear still = new PastAndClear();
        still.own(9999, -9999, 2, 0);
        due("7: at the edge, SPEED 0", still.steps(60), 0);
        due("7: it is there still", still.of(0, 0), 9999);
        PastAndClear along = new PastAndClear();
        along.own(9999, -9999, 0, 9);
        due("7: along the edge", along.steps(60), 0);
        due("7: along it", along.of(0, 1), -4599);
    }

    private static void noneLeavesInAnyOfTheSteps() {
        Edges.Ready ready = y -> {
            y.own(0, 0, 0, 1);
            y.adds(0, 30, 8, 1);
            y.adds(0, 9979, 0, 1);
            y.steps(1);
        };
        EDGES.leavesState("7: the last that is taken", ready, x -> x.steps(1), 2);
        EDGES.refuses("7: in the last of two", ready, x -> x.steps(2), NO);
        EDGES.refuses("7: in the second of 60", ready, x -> x.steps(60), NO);
        PastAndClear x = Edges.made(ready);
        x.steps(2);
        due("7: nothing is done: STEPS", x.count(3), 1);
        due("7: nothing is done: place", x.of(0, 1), 10);
        due("7: nothing is done: DUTY", x.duty(1), 1);
    }

    private static void badComesBeforeNo() {
        EDGES.refuses("7: 61 at the edge", y -> y.own(0, 9999, 0, 9), x -> x.steps(61), BAD);
        EDGES.refuses("7: 0 at the edge", y -> y.own(0, 9999, 0, 9), x -> x.steps(0), BAD);
    }

    private static void stepsLookOneByOne() {
        // GIVE WAY since the first step; one LOOK alone, at the end, would see the OTHER astern and say HOLD.
        PastAndClear x = new PastAndClear();
        x.own(0, 0, 0, 2);
        x.adds(0, 100, 0, 0);
        due("7: seven in one: held since the first", x.steps(7), 2);
        due("7: the TABLE at the end", x.table(0, 1), 2);
        due("7: the DUTY", x.duty(1), 1);
        due("7: clear by one more", x.steps(1), 0);
        due("7: so it is over", x.duty(1), 0);
        // HOLD since the first step; at the end OWN is astern of the OTHER, and a LOOK alone would say GIVE WAY.
        PastAndClear y = new PastAndClear();
        y.own(0, 0, 4, 0);
        y.adds(40, 15, 8, 1);
        due("7: four in one", y.steps(4), 0);
        due("7: the TABLE at the end says 1", y.table(0, 1), 1);
        due("7: HOLD since the first", y.duty(1), 2);
    }

    private static void stepsMoveThenLook() {
        PastAndClear x = new PastAndClear();
        x.own(0, 0, 0, 1);
        x.adds(40, 130, 0, 0);
        due("7: beyond SPAN before the step", x.risk(0, 1), 0);
        due("7: within it behind the step", x.steps(1), 2);
        PastAndClear y = new PastAndClear();
        y.own(0, 0, 8, 1);
        y.adds(0, 45, 0, 0);
        due("7: a RISK before the step", y.risk(0, 1), 1);
        due("7: none behind it", y.steps(1), 0);
        due("7: so no DUTY", y.duty(1), 0);
    }

    private static void bitsOfThoseToGiveWayTo() {
        for (int near = 1; near <= 6; near++) {
            PastAndClear x = new PastAndClear();
            for (int i = 1; i <= 6; i++) x.adds(i == near ? 0 : 5000, 0, 0, 0);
            due("7: bit " + near, x.steps(1), 1 << near);
            due("8: bit " + near, x.looks(), 1 << near);
        }
        PastAndClear x = Edges.made(Edges::busy);
        due("7: a HOLD has no bit", x.steps(1), 2);
        due("7: though it is one", x.duty(2), 2);
    }

    // Promise 8: looks, and 'A LOOK'

    private static void looksWithNobody() {
        EDGES.leavesState("8: OWN alone", Edges::fresh, PastAndClear::looks, 0);
        EDGES.leavesState("8: nothing becomes other", Edges::busy, PastAndClear::looks, 2);
        EDGES.leavesState("8: five STATES", Edges::full, PastAndClear::looks, Edges.made(Edges::full).looks());
    }

    /** OWN at 0, 0 at rest, an OTHER to whom it has the DUTY 1, now at dx, dy with h, s. */
    private static PastAndClear held(int dx, int dy, int h, int s) {
        PastAndClear x = new PastAndClear();
        x.adds(dx, dy, 0, 0);
        x.sets(0, 999);
        x.looks();
        due("8: held at first", x.duty(1), 1);
        x.veers(1, h, s);
        x.sets(0, 50);
        return x;
    }

    private static void pastFromDotZeroOn() {
        // V is (4, 9).
        due("8: DOT 0", held(90, -40, 1, 1).looks(), 0);
        due("8: DOT 4", held(91, -40, 1, 1).looks(), 0);
        due("8: DOT -4", held(89, -40, 1, 1).looks(), 2);
        due("8: DOT 1", held(97, -43, 1, 1).looks(), 0);
        due("8: DOT -1", held(92, -41, 1, 1).looks(), 2);
        due("8: V (0, 0)", held(90, -40, 1, 0).looks(), 0);
        due("8: far, yet closing", held(600, 0, 12, 1).looks(), 2);
    }

    private static void clearFromSafeSquaredOn() {
        due("8: at SAFE", held(30, 40, 0, 0).looks(), 0);
        due("8: R, R 2501", held(50, 1, 0, 0).looks(), 0);
        // No whole R has 2499.
        due("8: R, R 2498", held(47, 17, 0, 0).looks(), 2);
        due("8: parting, R, R 2401", held(0, 49, 0, 9).looks(), 2);
        due("8: parting, R, R 2500", held(0, 50, 0, 9).looks(), 0);
        PastAndClear x = held(998, 0, 4, 0);
        x.sets(0, 999);
        due("8: SAFE 999, 998 off", x.looks(), 2);
        x.sets(0, 998);
        due("8: SAFE 998, 998 off", x.looks(), 0);
        PastAndClear y = held(0, 0, 0, 9);
        y.sets(0, 1);
        due("8: SAFE 1, at one place", y.looks(), 2);
        PastAndClear z = held(1, 0, 0, 9);
        z.sets(0, 1);
        due("8: SAFE 1, 1 off", z.looks(), 0);
    }

    private static void holdIsOverTheSameWay() {
        PastAndClear x = new PastAndClear();
        x.own(0, 0, 4, 0);
        x.adds(0, 50, 8, 0);
        x.sets(0, 51);
        x.looks();
        due("8: HOLD", x.duty(1), 2);
        x.looks();
        due("8: HOLD still", x.duty(1), 2);
        x.sets(0, 50);
        x.looks();
        due("8: HOLD over", x.duty(1), 0);
    }

    private static void aDutyStaysThoughTheTableSaysOther() {
        PastAndClear x = new PastAndClear();
        x.adds(0, 10, 8, 0);
        due("8: 1 by head on", x.looks(), 2);
        x.veers(0, 8, 0);
        due("8: TABLE says 2 now", x.table(0, 1), 2);
        due("8: it stays 1", x.looks(), 2);
        x.own(0, 0, 8, 0);
        due("8: from 0 it becomes 2", x.looks(), 0);
        due("8: 2", x.duty(1), 2);
        x.veers(0, 0, 0);
        due("8: TABLE says 1 now", x.table(0, 1), 1);
        due("8: it stays 2", x.looks(), 0);
        due("8: 2 still", x.duty(1), 2);
    }

    // Promise 9: obeys

    private static void obeysTurnsRoundTheCompass() {
        for (int h = 0; h < 16; h++) {
            PastAndClear x = new PastAndClear();
            x.veers(0, h, 2);
            x.adds(20 * x.of(0, 4), 20 * x.of(0, 5), (h + 8) % 16, 2);
            x.looks();
            due("9: head on by " + h, x.obeys(), (h + 1) % 16);
            due("9: HEADING now", x.of(0, 2), (h + 1) % 16);
            due("9: SPEED as it was", x.of(0, 3), 2);
        }
    }

    private static void obeysSixteenStops() {
        EDGES.leavesState("9: 16", ShipsBoundsTest::ringed, PastAndClear::obeys, 16);
        PastAndClear x = Edges.made(ShipsBoundsTest::ringed);
        x.obeys();
        due("9: SPEED 0", x.of(0, 3), 0);
        due("9: HEADING as it was", x.of(0, 2), 3);
    }

    /** Ringed by six ships at rest, 200 off: OWN is clear at rest alone. */
    private static void ringed(PastAndClear x) {
        x.own(0, 0, 3, 2);
        x.sets(0, 150);
        x.sets(1, 99);
        int[][] ring = {{0, 200}, {173, 100}, {173, -100}, {0, -200}, {-173, -100}, {-173, 100}};
        for (int[] r : ring) x.adds(r[0], r[1], 0, 0);
        x.looks();
    }

    private static void obeysSeventeenDoesNothing() {
        Edges.Ready atOnePlace = x -> {
            x.own(5, 5, 7, 3);
            x.adds(5, 5, 7, 3);
            x.looks();
        };
        EDGES.leavesState("9: 17", atOnePlace, PastAndClear::obeys, 17);
        PastAndClear x = Edges.made(atOnePlace);
        x.obeys();
        due("9: HEADING as it was", x.of(0, 2), 7);
        due("9: SPEED as it was", x.of(0, 3), 3);
        due("9: DUTY as it was", x.duty(1), 1);
    }

    private static void obeysWithoutDuty() {
        EDGES.leavesState("9: alone, HEADING 0", Edges::fresh, PastAndClear::obeys, 0);
        EDGES.leavesState("9: alone, HEADING 15", x -> x.veers(0, 15, 9), PastAndClear::obeys, 15);
        PastAndClear x = new PastAndClear();
        x.own(0, 0, 0, 3);
        x.adds(-300, 300, 4, 3);
        x.looks();
        due("9: HOLD", x.duty(1), 2);
        due("9: none is 1", x.obeys(), 0);
        due("9: SPEED as it was", x.of(0, 3), 3);
    }

    // 'each call told S, if it is not refused, leaves one, also if nothing becomes other by it'

    private static void callsToldS() {
        EDGES.leavesState("S: adds", Edges::busy, x -> x.adds(1, 2, 3, 4), 3);
        EDGES.leavesState("S: own as it is", Edges::fresh, x -> x.own(0, 0, 0, 0), 0);
        EDGES.leavesState("S: drops", Edges::busy, x -> x.drops(1), 1);
        EDGES.leavesState("S: veers as it is", Edges::fresh, x -> x.veers(0, 0, 0), 0);
        EDGES.leavesState("S: SAFE as it is", Edges::fresh, x -> x.sets(0, 50), 50);
        EDGES.leavesState("S: SPAN as it is", Edges::fresh, x -> x.sets(1, 12), 12);
        EDGES.leavesState("S: steps at rest", Edges::fresh, x -> x.steps(1), 0);
        EDGES.leavesState("S: looks with nobody", Edges::fresh, PastAndClear::looks, 0);
        EDGES.leavesState("S: obeys as it goes", Edges::fresh, PastAndClear::obeys, 0);
        EDGES.leavesState("S: does", Edges::busy, PastAndClear::does, 3);
        EDGES.leavesState("S: adds, five STATES", x -> { Edges.full(x); x.drops(6); }, x -> x.adds(1, 2, 3, 4), 6);
        EDGES.leavesState("S: does, five STATES", Edges::full, PastAndClear::does, 75);
    }

    // 'An object is used for at most 512 calls'

    private static void the512thCall() {
        PastAndClear x = new PastAndClear();
        x.own(-9999, 0, 4, 1);
        for (int call = 2; call <= 501; call++) due("512: step " + call, x.steps(call <= 170 ? 2 : 1), 0);
        due("512: STEPS", x.count(3), 669);
        due("512: x", x.of(0, 0), -9999 + 6690);
        for (int left = 4; left >= 0; left--) due("512: back", x.back(), left);
        due("512: x after it", x.of(0, 0), -9999 + 6640);
        due("512: NO", x.back(), NO);
        due("512: told", x.told(1), 1);
        due("512: the 512th call", x.count(3), 664);
    }
}
