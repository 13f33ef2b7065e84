/** Promises 21 to 26: the calls under 'texts'. */
public final class TextsTest {
    private static final Checks CHECKS = new Checks();

    public static void main(String[] args) {
        type();
        wipes();
        faults();
        blanks();
        orders();
        ordersThatEndAll();
        doesLeavesOneState();
        back();
        backOverEach();
        fiveStates();
        told();
        digest();
        CHECKS.end();
    }

    private static void due(String call, long got, long want) {
        CHECKS.due(call, got, want);
    }

    private static void type() {
        PastAndClear x = new PastAndClear();
        due("21: type(0)", x.type(0), 1);
        due("21: type(127)", x.type(127), 2);
        long before = Checks.withoutTallies(x);
        CHECKS.refused(x, "21: type(-1)", before, x.type(-1), PastAndClear.BAD);
        CHECKS.refused(x, "21: type(128)", before, x.type(128), PastAndClear.BAD);
        CHECKS.refused(x, "21: type(304)", before, x.type(304), PastAndClear.BAD);
        for (int n = 3; n <= 150; n++) due("21: type " + n, x.type(32), n);
        before = Checks.withoutTallies(x);
        CHECKS.refused(x, "21: a 151st", before, x.type(32), PastAndClear.FULL);
        CHECKS.refused(x, "21: a 151st, wrong", before, x.type(128), PastAndClear.BAD);
        due("21: told FULL", x.told(2), 1);
        due("21: told BAD", x.told(0), 4);
        due("21: no state", x.told(4), 0);
    }

    private static void wipes() {
        PastAndClear x = new PastAndClear();
        due("22: empty", x.wipes(), 0);
        Checks.type(x, "b;b;");
        due("22: wipes", x.wipes(), 4);
        due("22: told(3)", x.told(3), 0);
        due("22: again", x.wipes(), 0);
        due("22: type", x.type('b'), 1);
        due("22: what was is gone", x.does(), -11);
        due("22: no state", x.told(4), 0);
    }

    private static void fault(String text, int place) {
        PastAndClear x = new PastAndClear();
        x.adds(1, 2, 3, 4);
        long before = x.digest();
        x.wipes();
        Checks.type(x, text);
        due("23: does of '" + text + "'", x.does(), -10 - place);
        due("23: the text stays", x.wipes(), text.length());
        due("23: all else after '" + text + "'", x.digest(), before);
    }

    private static void faults() {
        fault("", 0);
        fault("   ", 3);
        fault("x", 0);
        fault(";", 0);
        fault("B;", 0);
        fault("b", 1);
        fault("b 1;", 2);
        fault("b;;", 2);
        fault("b;7", 2);
        fault("b; -", 3);
        fault("\tb;", 0);
        fault("\nb;", 0);
        fault("n;", 1);
        fault("n", 1);
        fault("n 12", 4);
        fault("n12345;", 5);
        fault("n00001;", 5);
        fault("n-1;", 1);
        fault("n1 2;", 3);
        fault("n1-2;", 2);
        fault("n1a;", 2);
        fault("t12;", 3);
        fault("t 1-2;", 3);
        fault("t1 2 3;", 5);
        fault("s 0 -5;", 4);
        fault("s 0 12345;", 8);
        fault("a- 5 0 0 0;", 2);
        fault("a--5 0 0 0;", 2);
        fault("a-;", 2);
        fault("a1--2 0 0;", 3);
        fault("a1- 2 0 0;", 3);
        fault("a 5 6 -1 0;", 6);
        fault("a 5 6 1 -0;", 8);
        fault("a-10000 0 0 0;", 6);
        fault("a 10000 0 0 0;", 6);
        fault("a 1 2 3;", 7);
        fault("a 1 2 3 4 5;", 10);
        fault("o 1 2 3", 7);
        fault("o 1 2 3 4", 9);
        fault("o 1 2 3 4;n", 11);
        fault("b;b;b;q;", 6);
        fault("n61;b;x", 6);
        fault("+", 0);
        fault("b;".repeat(74) + "b ", 150);
        fault("b;".repeat(74) + "bb", 149);
        fault("n+1;", 1);
        fault("n1;\u0000", 3);
    }

    private static void good(String text, int orders, int x, int y, int h, int s) {
        PastAndClear p = new PastAndClear();
        due("23: does of '" + text + "'", Checks.does(p, text), orders);
        due("23: x after '" + text + "'", p.of(0, 0), x);
        due("23: y after '" + text + "'", p.of(0, 1), y);
        due("23: h after '" + text + "'", p.of(0, 2), h);
        due("23: s after '" + text + "'", p.of(0, 3), s);
    }

    private static void blanks() {
        good("o1 2 3 4;", 1, 1, 2, 3, 4);
        good("o1-2 3 4;", 1, 1, -2, 3, 4);
        good("o-1-2 3 4;", 1, -1, -2, 3, 4);
        good("  o  -1  -2  3  4  ;  ", 1, -1, -2, 3, 4);
        good("o0001 -0002 0003 0004;", 1, 1, -2, 3, 4);
        good("o-0 -0000 0 0;", 1, 0, 0, 0, 0);
        good("o9999-9999 15 9;", 1, 9999, -9999, 15, 9);
        good("t 15 9 ; t3 4 ;", 2, 0, 0, 3, 4);
        good("b ; b;b", -17, 0, 0, 0, 0);
        good("b;".repeat(75), 75, 0, 0, 0, 0);
        good(" ".repeat(148) + "b;", 1, 0, 0, 0, 0);
        good(" ".repeat(149) + "b;", -10 - 150, 0, 0, 0, 0);
    }

    private static void orders() {
        PastAndClear x = new PastAndClear();
        due("23: all kinds", Checks.does(x, "o 0 0 0 2;a 0 400 8 2;s 0 60;s 1 20;n 1;b;t 5 6;"), 7);
        due("23: an OTHER", x.count(0), 1);
        due("23: SAFE", x.count(1), 60);
        due("23: SPAN", x.count(2), 20);
        due("23: STEPS", x.count(3), 1);
        due("23: duty", x.duty(1), 1);
        due("23: t veers", x.of(0, 2) * 16 + x.of(0, 3), 5 * 16 + 6);
        due("23: the text stays", x.told(3), 48);
        PastAndClear y = new PastAndClear();
        Checks.does(y, "o 0 0 0 2;a 0 400 8 2;n 1;b;");
        due("23: b obeys", y.of(0, 2), 1);
        due("23: done once more", y.does(), 4);
        due("23: so there are two", y.count(0), 2);
    }

    private static void endsAll(String text, int order) {
        PastAndClear x = new PastAndClear();
        x.own(9000, 0, 4, 9);
        x.adds(9000, 40, 12, 1);
        Checks.type(x, text);
        long before = x.digest();
        due("23: does of '" + text + "'", x.does(), -1000 - order);
        due("23: all after '" + text + "'", x.digest(), before);
    }

    private static void ordersThatEndAll() {
        endsAll("n 0;", 0);
        endsAll("n 61;", 0);
        endsAll("n 1;n 11;", 1);
        endsAll("n 11;t 12 9;n 60;n 60;n 60;n 60;n 60;", 5);
        endsAll("t 16 0;", 0);
        endsAll("b;b;t 0 10;", 2);
        endsAll("s 2 5;", 0);
        endsAll("s 0 7;s 1 0;", 1);
        endsAll("s 0 1000;", 0);
        endsAll("s 1 100;", 0);
        endsAll("a 0 0 16 0;", 0);
        endsAll("o 0 0 0 0;o 0 0 0 10;", 1);
        endsAll("a 0 0 0 0;a 0 0 0 0;a 0 0 0 0;a 0 0 0 0;a 0 0 0 0;a 0 0 0 0;", 5);
    }

    private static void doesLeavesOneState() {
        PastAndClear x = new PastAndClear();
        x.sets(0, 70);
        Checks.does(x, "s 0 80;s 0 90;a 1 1 1 1;");
        due("23: one state for all", x.told(4), 2);
        due("23: back over all", x.back(), 1);
        due("23: SAFE", x.count(1), 70);
        due("23: OTHERS", x.count(0), 0);
        due("23: the text is not taken back", x.told(3), 24);
        due("23: one that ends all", Checks.does(x, "s 0 80;s 0 0;"), -1001);
        due("23: leaves none", x.told(4), 1);
        due("23: nor does a fault", Checks.does(x, "s 0 80;s"), -18);
        due("23: none", x.told(4), 1);
        due("23: nothing counts", x.told(0) + x.told(1) + x.told(2), 0);
        due("23: b; alone leaves one", Checks.does(x, "b;"), 1);
        due("23: it does", x.told(4), 2);
    }

    private static void back() {
        PastAndClear x = new PastAndClear();
        long fresh = Checks.withoutTallies(x);
        due("24: none", x.back(), PastAndClear.NO);
        due("24: told NO", x.told(1), 1);
        x.own(0, 0, 0, 2);
        x.adds(0, 400, 8, 2);
        x.sets(1, 30);
        x.steps(2);
        long before = Checks.withoutTallies(x);
        x.drops(1);
        due("24: back over drops", x.back(), 4);
        due("24: all as before", Checks.withoutTallies(x), before);
        due("24: back over steps", x.back(), 3);
        due("24: duty", x.duty(1), 0);
        due("24: STEPS", x.count(3), 0);
        due("24: back over sets", x.back(), 2);
        due("24: SPAN", x.count(2), 12);
        due("24: back over adds", x.back(), 1);
        due("24: back over own", x.back(), 0);
        due("24: as new", Checks.withoutTallies(x), fresh);
        due("24: no more", x.back(), PastAndClear.NO);
        due("24: how often is not taken back", x.told(1), 2);
        due("24: a refused call leaves none", x.sets(9, 9), PastAndClear.BAD);
        due("24: still no more", x.back(), PastAndClear.NO);
    }

    private static void backOverEach() {
        for (int call = 0; call < 9; call++) {
            PastAndClear x = new PastAndClear();
            x.own(0, 0, 0, 2);
            x.adds(0, 400, 8, 2);
            x.adds(0, 300, 8, 2);
            if (call == 7) x.looks();
            long before = Checks.withoutTallies(x);
            boolean isOther = change(x, call) && Checks.withoutTallies(x) != before;
            CHECKS.dueTrue("24: call " + call + " changes something", isOther);
            x.back();
            x.wipes();
            due("24: back over call " + call, Checks.withoutTallies(x), before);
        }
    }

    private static boolean change(PastAndClear x, int call) {
        switch (call) {
            case 0: return x.adds(1, 2, 3, 4) == 3;
            case 1: return x.own(5, 6, 7, 8) == 2;
            case 2: return x.drops(1) == 1;
            case 3: return x.veers(1, 3, 3) == 40;
            case 4: return x.sets(1, 40) == 12;
            case 5: return x.steps(3) == 6;
            case 6: return x.looks() == 6;
            case 7: return x.obeys() == 1;
            default: return Checks.does(x, "o 1 1 1 1;a 0 0 0 0;n 1;") == 3;
        }
    }

    private static void fiveStates() {
        PastAndClear x = new PastAndClear();
        for (int v = 1; v <= 9; v++) x.sets(0, v);
        due("24: five", x.told(4), 5);
        for (int left = 4; left >= 0; left--) {
            due("24: five back", x.back(), left);
            due("24: SAFE five back", x.count(1), 4 + left);
        }
        due("24: older ones are lost", x.back(), PastAndClear.NO);
        due("24: SAFE stays", x.count(1), 4);
        x.sets(0, 100);
        due("24: on again", x.back(), 0);
        due("24: SAFE again", x.count(1), 4);
        for (int v = 1; v <= 5; v++) x.sets(0, v);
        due("24: one that ends all, with five kept", Checks.does(x, "s 0 9;n 0;"), -1001);
        for (int v = 4; v >= 1; v--) {
            x.back();
            due("24: the five are whole", x.count(1), v);
        }
        x.back();
        due("24: the eldest, too", x.count(1), 4);
    }

    private static void told() {
        PastAndClear x = new PastAndClear();
        due("25: told(-1)", x.told(-1), PastAndClear.BAD);
        due("25: told(5)", x.told(5), PastAndClear.BAD);
        due("25: BAD", x.told(0), 2);
        x.back();
        due("25: NO", x.told(1), 1);
        for (int n = 0; n < 8; n++) x.adds(n, n, n, n);
        due("25: FULL", x.told(2), 2);
        Checks.type(x, "abc");
        due("25: bytes", x.told(3), 3);
        due("25: STATES", x.told(4), 5);
        due("25: nothing by asking", x.told(0), 2);
    }

    private static long folded(PastAndClear x) {
        long h = 1934;
        for (int w = 0; w <= 4; w++) h = 31 * h + x.told(w);
        for (int w = 0; w <= 3; w++) h = 31 * h + x.count(w);
        for (int i = 0; i <= x.count(0); i++) {
            for (int w = 0; w <= 3; w++) h = 31 * h + x.of(i, w);
            h = 31 * h + x.advice(i);
        }
        for (int i = 1; i <= x.count(0); i++) {
            h = 31 * h + x.duty(i);
            for (int w = 0; w <= 3; w++) h = 31 * h + x.closest(0, i, w);
            h = 31 * h + x.sector(0, i);
            h = 31 * h + x.sector(i, 0);
            h = 31 * h + x.blocked(i);
        }
        return 31 * h + x.worst();
    }

    private static void digest() {
        PastAndClear x = new PastAndClear();
        due("26: new", x.digest(), folded(x));
        x.own(0, 0, 0, 3);
        x.adds(300, 300, 12, 3);
        x.adds(-300, 300, 4, 3);
        x.adds(0, -200, 0, 5);
        x.adds(41, 13, 9, 2);
        x.back();
        x.back();
        x.adds(7, -150, 1, 6);
        x.drops(9);
        x.type('b');
        due("26: before a look", x.digest(), folded(x));
        x.looks();
        due("26: after a look", x.digest(), folded(x));
        due("26: changes nothing", x.digest(), folded(x));
    }
}
