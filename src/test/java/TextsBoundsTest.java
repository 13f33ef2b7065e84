/** The boundary cases of promises 21 to 26, sentence by sentence. */
public final class TextsBoundsTest {
    private static final Checks CHECKS = new Checks();
    private static final Edges EDGES = new Edges(CHECKS);
    private static final int BAD = PastAndClear.BAD, NO = PastAndClear.NO, FULL = PastAndClear.FULL;
    private static final String FIGURES = "0123456789";

    public static void main(String[] args) {
        bytesThatTypeTakes();
        theTextHas150Bytes();
        badComesBeforeFull();
        typeLeavesNoState();
        wipesOfNoneAndAll();
        anEmptyText();
        blanksAlone();
        aTextThatEndsTooEarly();
        bytesThatCanStandBeforeAnOrder();
        bytesThatCanStandInPlaces();
        bytesThatCanStandInTwoNumbers();
        bytesThatCanStandInOneNumber();
        bytesThatCanStandBehindB();
        theFirstFaultOfSeveral();
        aFaultAtTheLastByte();
        aFaultBeforeAnOrderThatWouldBeRefused();
        numbersOfOneToFourFigures();
        numbersWithMinus();
        blanksAnywhere();
        aTextOfAllBytes();
        boundsOfOrderA();
        boundsOfOrderO();
        boundsOfOrderT();
        boundsOfOrderN();
        boundsOfOrderS();
        orderBAlways();
        theNumberOfTheOrderThatEndsAll();
        anOrderRefusedAfterOthersOfTheText();
        byDoesNothingCounts();
        oneStateForAll();
        theTextStays();
        backOfNone();
        backOverEverything();
        fiveStatesAtMost();
        statesAfterGoingBack();
        whatToldTakes();
        toldCountsEachKind();
        gettersLeaveNoState();
        digestIsNeverRefused();
        digestOfSevenShips();
        CHECKS.end();
    }

    private static void due(String call, long got, long want) {
        CHECKS.due(call, got, want);
    }

    // Promise 21: type

    private static void bytesThatTypeTakes() {
        for (int c = 0; c <= 127; c++) {
            PastAndClear x = new PastAndClear();
            due("21: byte " + c, x.type(c), 1);
            due("21: THE TEXT has it", x.told(3), 1);
        }
        for (int c : new int[] {-1, 128, 255, 256, 256 + 'b', -128, Integer.MIN_VALUE, Integer.MAX_VALUE}) {
            EDGES.refuses("21: byte " + c, Edges::busy, x -> x.type(c), BAD);
        }
    }

    private static void theTextHas150Bytes() {
        PastAndClear x = new PastAndClear();
        for (int n = 1; n <= 150; n++) due("21: byte number " + n, x.type(n % 128), n);
        due("21: one more", x.type('b'), FULL);
        due("21: 150 stay", x.told(3), 150);
        EDGES.refuses("21: FULL changes nothing", Edges::full, y -> y.type(';'), FULL);
        EDGES.refuses("21: FULL changes nothing, byte 0", Edges::full, y -> y.type(0), FULL);
        x.wipes();
        due("21: room again", x.type('b'), 1);
    }

    private static void badComesBeforeFull() {
        EDGES.refuses("21: -1, 150 bytes", Edges::full, x -> x.type(-1), BAD);
        EDGES.refuses("21: 128, 150 bytes", Edges::full, x -> x.type(128), BAD);
    }

    private static void typeLeavesNoState() {
        PastAndClear x = new PastAndClear();
        x.sets(0, 60);
        x.type('b');
        x.wipes();
        due("21: STATES", x.told(4), 1);
        x.type('n');
        due("24: back", x.back(), 0);
        due("24: THE TEXT does not go back", x.told(3), 1);
    }

    // Promise 22: wipes

    private static void wipesOfNoneAndAll() {
        EDGES.answers("22: none", Edges::fresh, PastAndClear::wipes, 0);
        PastAndClear x = Edges.made(Edges::full);
        int states = x.told(4);
        due("22: 150", x.wipes(), 150);
        due("22: none now", x.told(3), 0);
        due("22: once more", x.wipes(), 0);
        due("22: no STATE", x.told(4), states);
        due("22: nothing to do", x.does(), -10);
    }

    // Promise 23: 'FAULT: .. the TEXT's length, if it ends too early (one that is empty or has blanks alone, too)'

    private static void dueFault(String text, int place) {
        EDGES.answers("23: FAULT of '" + text + "'", x -> { Edges.busy(x); x.wipes(); Checks.type(x, text); }, PastAndClear::does, -10 - place);
    }

    private static void anEmptyText() {
        dueFault("", 0);
    }

    private static void blanksAlone() {
        for (int n : new int[] {1, 2, 149, 150}) dueFault(" ".repeat(n), n);
    }

    private static void aTextThatEndsTooEarly() {
        String[] orders = {"a-12 -3456 12 9;", "o 1-2 3 4 ;", " t 12 3;", "n60;", "b ;", "s 1 99;"};
        for (String order : orders) {
            for (int n = 1; n < order.length(); n++) dueFault(order.substring(0, n), n);
            for (int n = 1; n < order.length(); n++) {
                // What is a whole text and blanks has no FAULT.
                if (!order.substring(0, n).isBlank()) dueFault("b; " + order.substring(0, n), n + 3);
            }
        }
        dueFault("b;".repeat(74) + "b", 149);
        dueFault("b;".repeat(74) + "b ", 150);
        dueFault("b;".repeat(73) + "n600", 150);
    }

    // 'FAULT: the place of the first byte that can not stand there (a fifth figure)'

    /** Behind this text just these bytes can stand. */
    private static void dueBytes(String text, String allowed) {
        boolean whole = text.trim().endsWith(";");
        for (int c = 0; c <= 127; c++) {
            PastAndClear x = new PastAndClear();
            Checks.type(x, text);
            x.type(c);
            int got = x.does();
            boolean ends = c == ';' || c == ' ' && whole;
            String what = "23: byte " + c + " behind '" + text + "'";
            if (allowed.indexOf(c) < 0) due(what, got, -10 - text.length());
            else if (ends) CHECKS.dueTrue(what + " ends an ORDER", got >= 0 || got <= -1000);
            else due(what + " needs more", got, -10 - text.length() - 1);
        }
    }

    private static void bytesThatCanStandBeforeAnOrder() {
        for (String text : new String[] {"", " ", "   ", "b;", "b; ", "n1;", "a1 2 3 4;  ", "t1 2;"}) dueBytes(text, " aotnbs");
    }

    private static void bytesThatCanStandInPlaces() {
        for (String kind : new String[] {"a", "o", "b; o"}) {
            for (String text : new String[] {"", " ", "  "}) dueBytes(kind + text, " -" + FIGURES);
            for (String text : new String[] {"-", " -", "1-", "1 -", "1234-", "-1-"}) dueBytes(kind + text, FIGURES);
            for (String text : new String[] {"1", "12", "123", "-1", "-123", " 0", "-0"}) dueBytes(kind + text, " -" + FIGURES);
            for (String text : new String[] {"1234", "-1234", "0000"}) dueBytes(kind + text, " -");
            for (String text : new String[] {"1 ", "1234  "}) dueBytes(kind + text, " -" + FIGURES);
            for (String text : new String[] {"1 2", "1-2", "1 234", "-1-234", "1 2 3", "1 2 345"}) dueBytes(kind + text, " " + FIGURES);
            for (String text : new String[] {"1 2345", "1-2345", "1 2 3456"}) dueBytes(kind + text, " ");
            for (String text : new String[] {"1 2 ", "1-2345 ", "1 2 3 ", "1 2 3456  "}) dueBytes(kind + text, " " + FIGURES);
            for (String text : new String[] {"1 2 3 4", "1 2 3 456"}) dueBytes(kind + text, " ;" + FIGURES);
            for (String text : new String[] {"1 2 3 4567", "1 2 3 4 ", "1 2 3 4567  "}) dueBytes(kind + text, " ;");
        }
    }

    private static void bytesThatCanStandInTwoNumbers() {
        for (String kind : new String[] {"t", "s", " t", "b;s"}) {
            for (String text : new String[] {"", " ", "  ", "1", "123", " 12", "1 ", "1234  "}) dueBytes(kind + text, " " + FIGURES);
            dueBytes(kind + "1234", " ");
            for (String text : new String[] {"1 2", "1 234"}) dueBytes(kind + text, " ;" + FIGURES);
            for (String text : new String[] {"1 2345", "1 2 ", "1 2345  "}) dueBytes(kind + text, " ;");
        }
    }

    private static void bytesThatCanStandInOneNumber() {
        for (String kind : new String[] {"n", " n", "n1;n"}) {
            for (String text : new String[] {"", " ", "  "}) dueBytes(kind + text, " " + FIGURES);
            for (String text : new String[] {"1", "12", "123", " 1"}) dueBytes(kind + text, " ;" + FIGURES);
            for (String text : new String[] {"1234", "1 ", "1234  "}) dueBytes(kind + text, " ;");
        }
    }

    private static void bytesThatCanStandBehindB() {
        for (String text : new String[] {"b", "b ", "b   ", " b", "b;b", "b; b "}) dueBytes(text, " ;");
    }

    private static void theFirstFaultOfSeveral() {
        dueFault("xb;y", 0);
        dueFault("b;xb;y", 2);
        dueFault("n12345 6;", 5);
        dueFault("a- - 1;", 2);
        dueFault("t 1-2 -3", 3);
        dueFault("b;;b;;", 2);
    }

    private static void aFaultAtTheLastByte() {
        dueFault("b;".repeat(74) + "bb", 149);
        dueFault("b;".repeat(74) + " x", 149);
        dueFault("b;".repeat(72) + "n12345", 149);
        dueFault(" ".repeat(149) + ";", 149);
        dueFault(" ".repeat(149) + "b", 150);
    }

    // 'THE TEXT is read whole first'

    private static void aFaultBeforeAnOrderThatWouldBeRefused() {
        dueFault("n0;x", 3);
        dueFault("n61;n", 5);
        dueFault("s0 60;a0 0 16 0;b", 17);
    }

    // 'Numbers have 1 to 4 figures, x and y perhaps with - ahead'

    private static void dueOwn(String text, int... want) {
        PastAndClear x = new PastAndClear();
        due("23: does of '" + text + "'", Checks.does(x, text), 1);
        for (int what = 0; what <= 3; what++) due("23: of(0, " + what + ") by '" + text + "'", x.of(0, what), want[what]);
    }

    private static void numbersOfOneToFourFigures() {
        dueOwn("o1 2 3 4;", 1, 2, 3, 4);
        dueOwn("o12 34 15 09;", 12, 34, 15, 9);
        dueOwn("o123 456 015 009;", 123, 456, 15, 9);
        dueOwn("o1234 5678 0015 0009;", 1234, 5678, 15, 9);
        dueOwn("o0000 0000 0000 0000;", 0, 0, 0, 0);
        dueFault("o00000 0 0 0;", 5);
        dueFault("o0 00000 0 0;", 7);
        dueFault("o0 0 00000 0;", 9);
        dueFault("o0 0 0 00000;", 11);
    }

    private static void numbersWithMinus() {
        dueOwn("o-1-2 3 4;", -1, -2, 3, 4);
        dueOwn("o-9999-9999 15 9;", -9999, -9999, 15, 9);
        dueOwn("o9999 9999 15 9;", 9999, 9999, 15, 9);
        dueOwn("o-0-0000 0 0;", 0, 0, 0, 0);
        dueOwn("o-0001 -0002 0 0;", -1, -2, 0, 0);
        dueFault("o-00001 0 0 0;", 6);
        dueFault("o0 0-0 0;", 4);
        dueFault("o0 0 -0 0;", 5);
        dueFault("o0 0 0-0;", 6);
        dueFault("t-1 0;", 1);
        dueFault("t1 -0;", 3);
        dueFault("n-1;", 1);
        dueFault("s-0 5;", 1);
        dueFault("s0 -5;", 3);
        dueFault("o--1 0 0 0;", 2);
        dueFault("o- 1 0 0 0;", 2);
        dueFault("o1- 1 0 0;", 3);
    }

    private static void blanksAnywhere() {
        dueOwn("   o   -1   -2   3   4   ;   ", -1, -2, 3, 4);
        dueOwn("o-1-2 3 4;", -1, -2, 3, 4);
        dueOwn(" ".repeat(140) + "o1 2 3 4; ", 1, 2, 3, 4);
        dueOwn("o1 2 3 4;" + " ".repeat(141), 1, 2, 3, 4);
        dueFault("o1 2 34;", 7);
        dueFault("t12;", 3);
        dueFault("s060;", 4);
        // A blank within a number makes two of it, and the second can not stand there.
        dueFault("n1 2;", 3);
        dueFault("t1 2 3;", 5);
    }

    private static void aTextOfAllBytes() {
        PastAndClear x = new PastAndClear();
        due("23: 75 ORDERS in 150 bytes", Checks.does(x, "b;".repeat(75)), 75);
        due("23: one STATE", x.told(4), 1);
        due("23: one in 150 bytes", Checks.does(x, " ".repeat(148) + "b;"), 1);
        due("23: 50 of three bytes", Checks.does(x, "n1;".repeat(50)), 50);
        due("23: STEPS", x.count(3), 50);
    }

    // 'an ORDER that its call would refuse then ends all, nothing is done'

    /** The ORDER as the second of a text: done, or ending all with nothing done. */
    private static void dueOrder(String order, boolean taken) {
        Edges.Ready ready = x -> { Edges.busy(x); x.wipes(); Checks.type(x, "s0 77;" + order); };
        if (taken) EDGES.leavesState("23: ORDER " + order, ready, PastAndClear::does, 2);
        else EDGES.answers("23: ORDER " + order, ready, PastAndClear::does, -1001);
    }

    private static void boundsOfOrderA() {
        dueOrder("a-9999 9999 0 0;", true);
        dueOrder("a9999-9999 15 9;", true);
        dueOrder("a0 0 16 0;", false);
        dueOrder("a0 0 9999 0;", false);
        dueOrder("a0 0 0 10;", false);
        dueOrder("a0 0 0 9999;", false);
        PastAndClear x = new PastAndClear();
        due("23: six by ORDERS", Checks.does(x, "a0 0 0 0;".repeat(6)), 6);
        due("23: OTHERS", x.count(0), 6);
        due("23: a seventh ends all", Checks.does(x, "a0 0 0 0;"), -1000);
        PastAndClear y = new PastAndClear();
        due("23: seven by ORDERS", Checks.does(y, "a0 0 0 0;".repeat(7)), -1006);
        due("23: not one of them is there", y.count(0), 0);
    }

    private static void boundsOfOrderO() {
        dueOrder("o-9999 9999 0 0;", true);
        dueOrder("o9999-9999 15 9;", true);
        dueOrder("o0 0 16 0;", false);
        dueOrder("o0 0 9999 0;", false);
        dueOrder("o0 0 0 10;", false);
        dueOrder("o0 0 0 9999;", false);
        PastAndClear x = Edges.made(Edges::busy);
        Checks.does(x, "o0 30 0 3;");
        due("23: o leaves no DUTIES", x.duty(1) + x.duty(2), 0);
        due("23: o sets STEPS back", x.count(3), 0);
    }

    private static void boundsOfOrderT() {
        dueOrder("t0 0;", true);
        dueOrder("t15 9;", true);
        dueOrder("t16 0;", false);
        dueOrder("t9999 0;", false);
        dueOrder("t0 10;", false);
        dueOrder("t0 9999;", false);
        PastAndClear x = Edges.made(Edges::busy);
        Checks.does(x, "t15 9;");
        due("23: t is of OWN", x.of(0, 2) * 16 + x.of(0, 3), 249);
        due("23: not of an OTHER", x.of(1, 2) * 16 + x.of(1, 3), 195);
        due("23: t leaves DUTIES", x.duty(1), 1);
    }

    private static void boundsOfOrderN() {
        dueOrder("n1;", true);
        dueOrder("n60;", true);
        dueOrder("n0;", false);
        dueOrder("n0000;", false);
        dueOrder("n61;", false);
        dueOrder("n9999;", false);
        dueOrder("o0 9979 0 1;n2;", 3);
        dueOrder("o0 9979 0 1;n3;", -1002);
        dueOrder("o0 9979 0 1;n2;n1;", -1003);
        dueOrder("o0 9980 0 1;n2;", -1002);
    }

    /** ORDERS behind a first one: so many done, or ended all. */
    private static void dueOrder(String orders, int want) {
        Edges.Ready ready = x -> { Edges.busy(x); x.wipes(); Checks.type(x, "s0 77;" + orders); };
        if (want >= 0) EDGES.leavesState("23: ORDERS " + orders, ready, PastAndClear::does, want);
        else EDGES.answers("23: ORDERS " + orders, ready, PastAndClear::does, want);
    }

    private static void boundsOfOrderS() {
        dueOrder("s0 1;", true);
        dueOrder("s0 999;", true);
        dueOrder("s1 1;", true);
        dueOrder("s1 99;", true);
        dueOrder("s0 0;", false);
        dueOrder("s0 1000;", false);
        dueOrder("s0 9999;", false);
        dueOrder("s1 0;", false);
        dueOrder("s1 100;", false);
        dueOrder("s2 5;", false);
        dueOrder("s9999 5;", false);
        PastAndClear x = new PastAndClear();
        Checks.does(x, "s0 999;s1 99;");
        due("23: SAFE", x.count(1), 999);
        due("23: SPAN", x.count(2), 99);
    }

    private static void orderBAlways() {
        dueOrder("b;", true);
        PastAndClear x = new PastAndClear();
        Checks.does(x, "t15 2;a-160 360 7 2;n1;b;");
        due("23: b turns from 15 to 0", x.of(0, 2), 0);
        PastAndClear y = new PastAndClear();
        due("23: b of 17 is not refused", Checks.does(y, "t7 3;a0 0 7 3;n1;b;"), 4);
        due("23: HEADING as it was", y.of(0, 2), 7);
        due("23: SPEED as it was", y.of(0, 3), 3);
    }

    // '-1000 less the number (0 on) of the ORDER that ends all'

    private static void theNumberOfTheOrderThatEndsAll() {
        for (int n : new int[] {0, 1, 2, 72, 73}) {
            Edges.Ready ready = x -> { x.sets(0, 60); Checks.type(x, "b;".repeat(n) + "n0;"); };
            EDGES.answers("23: ORDER " + n + " ends all", ready, PastAndClear::does, -1000 - n);
        }
        EDGES.answers("23: the first of several", x -> Checks.type(x, "n1;n0;n1;n61;"), PastAndClear::does, -1001);
    }

    private static void anOrderRefusedAfterOthersOfTheText() {
        // Taken alone, refused behind what comes before it in THE TEXT; and the other way round.
        EDGES.answers("23: to the edge by the first, beyond it by the second",
            x -> { x.own(0, 9939, 0, 1); Checks.type(x, "n6;n1;"); }, PastAndClear::does, -1001);
        EDGES.leavesState("23: away from the edge by the first",
            x -> { x.own(0, 9999, 0, 1); Checks.type(x, "t8 1;n1;"); }, PastAndClear::does, 2);
        EDGES.answers("23: the other way round", x -> { x.own(0, 9999, 0, 1); Checks.type(x, "n1;t8 1;"); }, PastAndClear::does, -1000);
        EDGES.answers("23: seven SHIPS", x -> { Edges.full(x); x.wipes(); Checks.type(x, "s1 3;a0 0 0 0;"); }, PastAndClear::does, -1001);
    }

    // 'By does() nothing counts (by type() as by any call).'

    private static void byDoesNothingCounts() {
        PastAndClear x = new PastAndClear();
        for (int i = 1; i <= 6; i++) x.adds(0, 0, 0, 0);
        x.own(0, 9999, 0, 1);
        due("23: BAD within", Checks.does(x, "n0;"), -1000);
        due("23: NO within", Checks.does(x, "n1;"), -1000);
        due("23: FULL within", Checks.does(x, "a0 0 0 0;"), -1000);
        due("23: a FAULT", Checks.does(x, "x"), -10);
        for (int what = 0; what <= 2; what++) due("25: told(" + what + ")", x.told(what), 0);
        x.type(128);
        due("25: BAD by type()", x.told(0), 1);
        x.wipes();
        for (int n = 0; n < 151; n++) x.type(' ');
        due("25: FULL by type()", x.told(2), 1);
    }

    // 'S (one STATE for all)'

    private static void oneStateForAll() {
        EDGES.leavesState("23: one ORDER", x -> Checks.type(x, "b;"), PastAndClear::does, 1);
        EDGES.leavesState("23: seven ORDERS", x -> { Edges.busy(x); x.wipes(); Checks.type(x, "s0 9;s1 9;n1;t1 1;b;a1 1 1 1;o1 1 1 1;"); },
            PastAndClear::does, 7);
        EDGES.leavesState("23: with five STATES", Edges::full, PastAndClear::does, 75);
        PastAndClear x = Edges.made(Edges::full);
        Checks.does(x, "n1;n0;");
        due("23: none by one that ends all", x.told(4), 5);
        Checks.does(x, "n1;n");
        due("23: none by a FAULT", x.told(4), 5);
        for (int left = 4; left >= 0; left--) due("24: all five are there", x.back(), left);
    }

    private static void theTextStays() {
        PastAndClear x = new PastAndClear();
        Checks.type(x, "n1;");
        for (int n = 1; n <= 7; n++) {
            due("23: again", x.does(), 1);
            due("23: THE TEXT stays", x.told(3), 3);
            due("23: STEPS", x.count(3), n);
        }
        x.back();
        due("24: THE TEXT stays when going back", x.told(3), 3);
        Checks.type(x, "n0;");
        due("23: ended", x.does(), -1001);
        due("23: THE TEXT stays then, too", x.told(3), 6);
        x.type('x');
        due("23: a FAULT", x.does(), -16);
        due("23: THE TEXT stays then, too", x.told(3), 7);
    }

    // Promise 24: back

    private static void backOfNone() {
        EDGES.refuses("24: none", Edges::fresh, PastAndClear::back, NO);
        EDGES.refuses("24: none any more", x -> { x.sets(0, 9); x.back(); }, PastAndClear::back, NO);
        EDGES.refuses("24: none by refused calls", x -> { x.sets(0, 0); x.drops(1); x.steps(61); }, PastAndClear::back, NO);
        EDGES.refuses("24: none by texts", x -> { Checks.type(x, "n0;"); x.does(); x.wipes(); }, PastAndClear::back, NO);
    }

    private static void backOverEverything() {
        PastAndClear x = new PastAndClear();
        x.own(0, 0, 0, 3);
        x.adds(300, 300, 12, 3);
        long[] digests = new long[6];
        Edges.Call[] calls = {y -> y.steps(1), y -> y.sets(0, 70), y -> y.sets(1, 70), PastAndClear::obeys, y -> y.drops(1)};
        for (int n = 0; n < 5; n++) {
            digests[n] = bare(x);
            calls[n].on(x);
        }
        for (int n = 4; n >= 0; n--) {
            due("24: how many can be yet", x.back(), n);
            due("24: all as before call " + n, bare(x), digests[n]);
        }
    }

    /** All that a STATE holds. */
    private static long bare(PastAndClear x) {
        long h = 0;
        for (int what = 0; what <= 3; what++) h = 31 * h + x.count(what);
        for (int i = 0; i <= x.count(0); i++) {
            for (int what = 0; what <= 3; what++) h = 31 * h + x.of(i, what);
            if (i > 0) h = 31 * h + x.duty(i);
        }
        return h;
    }

    private static void fiveStatesAtMost() {
        for (int calls = 0; calls <= 12; calls++) {
            PastAndClear x = new PastAndClear();
            for (int v = 1; v <= calls; v++) x.sets(0, 100 + v);
            int states = Math.min(5, calls);
            due("24: STATES after " + calls, x.told(4), states);
            for (int left = states - 1; left >= 0; left--) {
                due("24: left", x.back(), left);
                int before = calls - (states - left);
                due("24: SAFE then", x.count(1), before == 0 ? 50 : 100 + before);
            }
            due("24: older ones are lost", x.back(), NO);
        }
    }

    private static void statesAfterGoingBack() {
        PastAndClear x = new PastAndClear();
        for (int v = 1; v <= 5; v++) x.sets(0, v);
        x.back();
        x.back();
        due("24: three", x.told(4), 3);
        x.sets(0, 10);
        due("24: four", x.told(4), 4);
        x.sets(0, 11);
        x.sets(0, 12);
        due("24: five", x.told(4), 5);
        int[] want = {11, 10, 3, 2, 1};
        for (int n = 0; n < 5; n++) {
            due("24: back", x.back(), 4 - n);
            due("24: SAFE by the new way", x.count(1), want[n]);
        }
        due("24: back itself left none", x.back(), NO);
    }

    // Promise 25: told

    private static void whatToldTakes() {
        int[] want = {1, 1, 0, 11, 4};
        for (int what = 0; what <= 4; what++) {
            int asked = what;
            EDGES.answers("25: what " + what, Edges::busy, x -> x.told(asked), want[what]);
        }
        for (int what : new int[] {-1, 5, Integer.MIN_VALUE, Integer.MAX_VALUE}) {
            EDGES.refuses("25: what " + what, Edges::busy, x -> x.told(what), BAD);
        }
    }

    private static void toldCountsEachKind() {
        PastAndClear x = new PastAndClear();
        for (int what = 0; what <= 4; what++) due("25: at first", x.told(what), 0);
        Edges.Call[] bad = {y -> y.adds(0, 0, 16, 0), y -> y.own(0, 0, 0, 10), y -> y.drops(0), y -> y.veers(0, -1, 0), y -> y.sets(2, 5),
            y -> y.steps(0), y -> y.of(0, 6), y -> y.closest(0, 0, 0), y -> y.risk(0, 0), y -> y.sector(0, 0), y -> y.table(0, 0),
            y -> y.duty(0), y -> y.clear(0, 16, 0), y -> y.blocked(0), y -> y.advice(1), y -> y.count(4), y -> y.type(128), y -> y.told(5)};
        for (int n = 0; n < bad.length; n++) {
            due("25: refused", bad[n].on(x), BAD);
            due("25: BAD", x.told(0), n + 1);
        }
        due("25: NO", x.told(1), 0);
        x.back();
        x.own(0, 9999, 0, 1);
        x.steps(1);
        due("25: NO by back and steps", x.told(1), 2);
        for (int n = 0; n < 7; n++) x.adds(0, 0, 0, 0);
        for (int n = 0; n < 151; n++) x.type(0);
        due("25: FULL by adds and type", x.told(2), 2);
        due("25: BAD as it was", x.told(0), bad.length);
        due("25: bytes", x.told(3), 150);
        due("25: STATES", x.told(4), 5);
        x.back();
        due("25: refusals do not go back", x.told(0) + x.told(1) + x.told(2), bad.length + 4);
    }

    private static void gettersLeaveNoState() {
        Edges.Call[] getters = {x -> x.of(0, 0), x -> x.closest(0, 1, 0), x -> x.risk(0, 1), x -> x.sector(0, 1), x -> x.table(0, 1),
            x -> x.duty(1), PastAndClear::worst, x -> x.clear(0, 0, 0), x -> x.blocked(1), x -> x.advice(0), x -> x.advice(1),
            x -> x.count(0), x -> x.told(0), PastAndClear::digest};
        for (int n = 0; n < getters.length; n++) {
            PastAndClear x = Edges.made(Edges::busy);
            EDGES.answers("S: getter " + n, Edges::busy, getters[n], getters[n].on(x));
            due("S: STATES after getter " + n, x.told(4), 4);
        }
    }

    // Promise 26: digest

    private static void digestIsNeverRefused() {
        PastAndClear x = new PastAndClear();
        long first = x.digest();
        due("26: once more", x.digest(), first);
        due("26: nothing refused", x.told(0) + x.told(1) + x.told(2), 0);
        x.told(5);
        CHECKS.dueTrue("26: a refusal is seen", x.digest() != first);
        PastAndClear y = new PastAndClear();
        y.type('b');
        CHECKS.dueTrue("26: a byte is seen", y.digest() != first);
        y.wipes();
        due("26: an empty text again", y.digest(), first);
        y.looks();
        CHECKS.dueTrue("26: a STATE is seen", y.digest() != first);
        y.back();
        due("26: as at first", y.digest(), first);
    }

    private static void digestOfSevenShips() {
        PastAndClear x = Edges.made(Edges::full);
        long h = 1934;
        for (int w = 0; w <= 4; w++) h = 31 * h + x.told(w);
        for (int w = 0; w <= 3; w++) h = 31 * h + x.count(w);
        for (int i = 0; i <= 6; i++) {
            for (int w = 0; w <= 3; w++) h = 31 * h + x.of(i, w);
            h = 31 * h + x.advice(i);
        }
        for (int i = 1; i <= 6; i++) {
            h = 31 * h + x.duty(i);
            for (int w = 0; w <= 3; w++) h = 31 * h + x.closest(0, i, w);
            h = 31 * h + x.sector(0, i);
            h = 31 * h + x.sector(i, 0);
            h = 31 * h + x.blocked(i);
        }
        due("26: seven SHIPS", x.digest(), 31 * h + x.worst());
    }
}
