import java.util.Random;

/** Promises 1 to 26: long runs of mixed calls, answered as the Model answers them. */
public final class ModelTest {
    private static final Checks CHECKS = new Checks();
    private static PastAndClear x;
    private static Model m;
    private static Random random;
    private static int reach;
    private static String where;

    public static void main(String[] args) {
        int[] reaches = {0, 12, 60, 200, 600, 2000, 9999};
        for (int seed = 0; seed < 1400; seed++) {
            random = new Random(seed);
            reach = reaches[seed % reaches.length];
            x = new PastAndClear();
            m = new Model();
            for (int call = 0; call < 300; call++) {
                where = "seed " + seed + " call " + call + ": ";
                ask(random.nextInt(34));
                if (call % 10 == 0) due("digest()", x.digest(), m.digest());
            }
        }
        CHECKS.end();
    }

    private static void due(String call, long got, long want) {
        CHECKS.due(where + call, got, want);
    }

    /** Mostly within low .. high, at times its edges or just outside, at times far out. */
    private static int number(int low, int high) {
        int way = random.nextInt(40);
        if (way == 0) return low - 1;
        if (way == 1) return high + 1;
        if (way == 2) return low;
        if (way == 3) return high;
        if (way == 4 && random.nextInt(8) == 0) return random.nextInt();
        if (way == 5 && random.nextInt(8) == 0) return random.nextBoolean() ? Integer.MIN_VALUE : Integer.MAX_VALUE;
        return low + random.nextInt(high - low + 1);
    }

    private static int place() {
        return random.nextInt(60) == 0 ? number(-9999, 9999) : random.nextInt(2 * reach + 1) - reach;
    }

    private static int ship() {
        return random.nextInt(12) == 0 ? number(0, 6) : random.nextInt(m.now.ships.size());
    }

    private static int other() {
        return m.now.ships.size() == 1 || random.nextInt(12) == 0 ? number(1, 6) : 1 + random.nextInt(m.now.ships.size() - 1);
    }

    private static int stepCount() {
        return random.nextInt(4) == 0 ? number(1, 60) : 1 + random.nextInt(4);
    }

    private static int rule(int k) {
        if (random.nextInt(3) == 0) return k == 0 ? number(1, 999) : number(1, 99);
        return k == 0 ? 1 + random.nextInt(120) : 1 + random.nextInt(20);
    }

    private static void ask(int kind) {
        if (kind <= 12) change(kind);
        else if (kind <= 26) look(kind);
        else write(kind);
    }

    private static void change(int kind) {
        int a = place(), b = place(), h = number(0, 15), s = number(0, 9), i;
        switch (kind) {
            case 0: case 1: due("adds", x.adds(a, b, h, s), m.change('a', a, b, h, s)); break;
            case 2: due("own", x.own(a, b, h, s), m.change('o', a, b, h, s)); break;
            case 3: i = other(); due("drops " + i, x.drops(i), m.change('d', i, 0, 0, 0)); break;
            case 4: case 5: i = ship(); due("veers " + i, x.veers(i, h, s), m.change('v', i, h, s, 0)); break;
            case 6: i = number(0, 1); a = rule(i); due("sets " + i + " " + a, x.sets(i, a), m.change('s', i, a, 0, 0)); break;
            case 7: case 8: i = stepCount(); due("steps " + i, x.steps(i), m.change('n', i, 0, 0, 0)); break;
            case 9: case 10: due("looks", x.looks(), m.change('l', 0, 0, 0, 0)); break;
            case 11: due("obeys", x.obeys(), m.change('b', 0, 0, 0, 0)); break;
            default: if (random.nextInt(3) == 0) due("back", x.back(), m.back());
        }
    }

    private static void look(int kind) {
        int a = ship(), b = ship(), o = other(), w;
        switch (kind) {
            case 13: w = number(0, 5); due("of", x.of(a, w), m.of(a, w)); break;
            case 14: w = number(0, 3); due("closest", x.closest(a, b, w), m.closest(a, b, w)); break;
            case 15: due("risk", x.risk(a, b), m.risk(a, b)); break;
            case 16: due("sector", x.sector(a, b), m.sector(a, b)); break;
            case 17: case 18: due("table", x.table(a, b), m.table(a, b)); break;
            case 19: due("duty", x.duty(o), m.duty(o)); break;
            case 20: due("worst", x.worst(), m.worst()); break;
            case 21: w = number(0, 15); b = number(0, 9); due("clear", x.clear(a, w, b), m.clearOf(a, w, b)); break;
            case 22: due("blocked", x.blocked(o), m.blocked(o)); break;
            case 23: case 24: due("advice", x.advice(a), m.adviceOf(a)); break;
            case 25: w = number(0, 3); due("count", x.count(w), m.count(w)); break;
            default: w = number(0, 4); due("told", x.told(w), m.told(w));
        }
    }

    private static void write(int kind) {
        if (kind == 27) {
            int c = number(0, 127);
            due("type " + c, x.type(c), m.type(c));
        } else if (kind == 28) {
            due("wipes", x.wipes(), m.wipes());
        } else {
            if (random.nextInt(4) > 0) due("wipes", x.wipes(), m.wipes());
            type(text());
            due("does of '" + m.text + "'", x.does(), m.does());
        }
    }

    private static void type(String text) {
        for (int i = 0; i < text.length(); i++) due("type", x.type(text.charAt(i)), m.type(text.charAt(i)));
    }

    private static String text() {
        StringBuilder t = new StringBuilder(blanks());
        int orders = random.nextInt(7);
        for (int n = 0; n < orders; n++) order(t);
        if (random.nextInt(3) == 0 && t.length() > 0) spoil(t);
        return t.toString();
    }

    private static String blanks() {
        return random.nextInt(4) > 0 ? "" : " ".repeat(random.nextInt(3));
    }

    private static void order(StringBuilder t) {
        char kind = "aotnbsnb".charAt(random.nextInt(8));
        t.append(kind).append(blanks());
        int k = number(0, 1);
        int[] numbers = switch (kind) {
            case 'a', 'o' -> new int[] {place(), place(), number(0, 15), number(0, 9)};
            case 't' -> new int[] {number(0, 15), number(0, 9)};
            case 's' -> new int[] {k, rule(k)};
            case 'n' -> new int[] {stepCount()};
            default -> new int[0];
        };
        for (int n = 0; n < numbers.length; n++) {
            String figures = Integer.toString(numbers[n]);
            if (random.nextInt(20) == 0 && numbers[n] >= 0) figures = "0" + figures;
            if (random.nextInt(40) == 0 && numbers[n] == 0) figures = "-0";
            boolean apart = n > 0 && (figures.charAt(0) != '-' || random.nextBoolean());
            t.append(apart ? " " : "").append(blanks()).append(figures);
        }
        t.append(blanks()).append(';').append(blanks());
    }

    private static void spoil(StringBuilder t) {
        int at = random.nextInt(t.length());
        String signs = "aotnbs;- 0123456789xA\n";
        char sign = signs.charAt(random.nextInt(signs.length()));
        switch (random.nextInt(4)) {
            case 0: t.setCharAt(at, sign); break;
            case 1: t.insert(at, sign); break;
            case 2: t.deleteCharAt(at); break;
            default: t.setLength(at);
        }
    }
}
