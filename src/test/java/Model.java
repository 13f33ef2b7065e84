import java.math.BigInteger;
import java.util.ArrayList;
import java.util.List;
import java.util.regex.Matcher;
import java.util.regex.Pattern;

/** The document once more, written another way: vectors turned, fractions of BigIntegers, a text by patterns. */
final class Model {
    static final int NONE = -10001, BAD = -10002, NO = -10003, FULL = -10004;

    static final class Ship {
        int x, y, h, s, duty;
        Ship(int x, int y, int h, int s, int duty) { this.x = x; this.y = y; this.h = h; this.s = s; this.duty = duty; }
        Ship copy() { return new Ship(x, y, h, s, duty); }
        Ship with(int heading, int speed) { return new Ship(x, y, heading, speed, duty); }
    }

    static final class State {
        final List<Ship> ships = new ArrayList<>();
        int safe = 50, span = 12, steps = 0;
        State copy() {
            State c = new State();
            for (Ship s : ships) c.ships.add(s.copy());
            c.safe = safe; c.span = span; c.steps = steps;
            return c;
        }
    }

    /** A number above and one below, in lowest terms. */
    record Fraction(BigInteger above, BigInteger below) implements Comparable<Fraction> {
        static Fraction of(BigInteger a, BigInteger b) {
            BigInteger g = a.gcd(b);
            return new Fraction(a.divide(g), b.divide(g));
        }
        public int compareTo(Fraction o) { return above.multiply(o.below).compareTo(o.above.multiply(below)); }
        int compareTo(long v) { return above.compareTo(below.multiply(BigInteger.valueOf(v))); }
    }

    record Closest(Fraction time, Fraction distance) { }

    private static final int[][] VECTORS = {{0, 10}, {4, 9}, {7, 7}, {9, 4}, {10, 0}, {9, -4}, {7, -7}, {4, -9}, {0, -10}};

    State now = new State();
    final List<State> states = new ArrayList<>();
    final StringBuilder text = new StringBuilder();
    final int[] refused = new int[3];

    Model() { now.ships.add(new Ship(0, 0, 0, 0, 0)); }

    static int[] vector(int h) {
        if (h <= 8) return VECTORS[h];
        return new int[] {-VECTORS[16 - h][0], VECTORS[16 - h][1]};
    }

    static BigInteger big(long v) { return BigInteger.valueOf(v); }

    static long dot(long[] p, long[] q) { return p[0] * q[0] + p[1] * q[1]; }
    static long cross(long[] p, long[] q) { return p[0] * q[1] - p[1] * q[0]; }
    static long[] way(Ship a, Ship b) { return new long[] {b.x - a.x, b.y - a.y}; }
    static long[] drift(Ship a, Ship b) {
        int[] u = vector(a.h), w = vector(b.h);
        return new long[] {b.s * w[0] - a.s * u[0], b.s * w[1] - a.s * u[1]};
    }

    static Closest closest(Ship a, Ship b) {
        long[] r = way(a, b), v = drift(a, b);
        if (v[0] == 0 && v[1] == 0 || dot(r, v) >= 0) {
            return new Closest(Fraction.of(BigInteger.ZERO, BigInteger.ONE), Fraction.of(big(dot(r, r)), BigInteger.ONE));
        }
        return new Closest(Fraction.of(big(-dot(r, v)), big(dot(v, v))), Fraction.of(big(cross(r, v)).pow(2), big(dot(v, v))));
    }

    boolean risk(Ship a, Ship b) {
        Closest c = closest(a, b);
        return c.distance.compareTo((long) now.safe * now.safe) < 0 && c.time.compareTo(now.span) <= 0;
    }

    static int sector(Ship a, Ship b) {
        long[] r = way(a, b);
        int[] v = vector(a.h);
        long[] u = {v[0], v[1]};
        long p = dot(u, r), q = cross(u, r);
        boolean same = r[0] == 0 && r[1] == 0;
        boolean ahead = same || p > 0 && 4 * Math.abs(q) <= p;
        boolean astern = p < 0 && Math.abs(q) <= -2 * p;
        return ahead ? 0 : astern ? 3 : q < 0 ? 1 : 2;
    }

    int table(Ship a, Ship b) {
        if (!risk(a, b)) return 0;
        int m = sector(a, b), n = sector(b, a);
        if (n == 3) return 1;
        return switch (m) {
            case 3 -> 2;
            case 1 -> 1;
            case 2 -> 2;
            default -> n == 1 ? 2 : 1;
        };
    }

    boolean clear(int i, int h, int s) {
        Ship turned = now.ships.get(i).with(h, s);
        for (int j = 0; j < now.ships.size(); j++) if (j != i && risk(turned, now.ships.get(j))) return false;
        return true;
    }

    int advice(int i) {
        Ship me = now.ships.get(i);
        boolean yields = false;
        for (int j = 0; j < now.ships.size(); j++) {
            if (j == i) continue;
            int duty = i == 0 ? now.ships.get(j).duty : table(me, now.ships.get(j));
            yields |= duty == 1;
        }
        if (!yields) return me.h;
        int[] turns = {1, 2, 3, 4, 5, 6, 7, 8, -1, -2, -3, -4, -5, -6, -7};
        for (int turn : turns) {
            int h = Math.floorMod(me.h + turn, 16);
            if (clear(i, h, me.s)) return h;
        }
        return clear(i, me.h, 0) ? 16 : 17;
    }

    int looked() {
        Ship own = now.ships.get(0);
        int bits = 0;
        for (int i = 1; i < now.ships.size(); i++) {
            Ship o = now.ships.get(i);
            long[] r = way(own, o);
            if (o.duty == 0) o.duty = table(own, o);
            else if (dot(r, drift(own, o)) >= 0 && dot(r, r) >= (long) now.safe * now.safe) o.duty = 0;
            if (o.duty == 1) bits += (int) Math.pow(2, i);
        }
        return bits;
    }

    int stepped(int k) {
        int bits = 0;
        for (int n = 0; n < k; n++) {
            for (Ship s : now.ships) {
                s.x += s.s * vector(s.h)[0];
                s.y += s.s * vector(s.h)[1];
                if (Math.abs(s.x) > 9999 || Math.abs(s.y) > 9999) return NO;
            }
            now.steps++;
            bits = looked();
        }
        return bits;
    }

    static boolean bad(int v, int low, int high) { return v < low || v > high; }
    boolean noShip(int i) { return bad(i, 0, now.ships.size() - 1); }
    boolean noOther(int i) { return bad(i, 1, now.ships.size() - 1); }
    static boolean badShip(int x, int y, int h, int s) { return bad(x, -9999, 9999) || bad(y, -9999, 9999) || bad(h, 0, 15) || bad(s, 0, 9); }

    /** A call told S on 'now', which may be spoilt if the answer is a refusal. */
    private int order(char kind, int a, int b, int c, int d) {
        switch (kind) {
            case 'a':
                if (badShip(a, b, c, d)) return BAD;
                if (now.ships.size() == 7) return FULL;
                now.ships.add(new Ship(a, b, c, d, 0));
                return now.ships.size() - 1;
            case 'o':
                if (badShip(a, b, c, d)) return BAD;
                now.ships.set(0, new Ship(a, b, c, d, 0));
                for (Ship s : now.ships) s.duty = 0;
                now.steps = 0;
                return now.ships.size() - 1;
            case 'd':
                if (noOther(a)) return BAD;
                now.ships.remove(a);
                return now.ships.size() - 1;
            case 'v': {
                if (noShip(a) || bad(b, 0, 15) || bad(c, 0, 9)) return BAD;
                Ship s = now.ships.get(a);
                int was = 16 * s.s + s.h;
                s.h = b;
                s.s = c;
                return was;
            }
            case 's': {
                if (bad(a, 0, 1) || bad(b, 1, a == 0 ? 999 : 99)) return BAD;
                int was = a == 0 ? now.safe : now.span;
                if (a == 0) now.safe = b; else now.span = b;
                return was;
            }
            case 'n':
                return bad(a, 1, 60) ? BAD : stepped(a);
            case 'l':
                return looked();
            default: {
                int advice = advice(0);
                if (advice < 16) now.ships.get(0).h = advice;
                if (advice == 16) now.ships.get(0).s = 0;
                return advice;
            }
        }
    }

    private int refuse(int code) {
        refused[BAD - code]++;
        return code;
    }

    private void leave(State s) {
        states.add(s);
        if (states.size() > 5) states.remove(0);
    }

    int change(char kind, int a, int b, int c, int d) {
        State before = now.copy();
        int answer = order(kind, a, b, c, d);
        if (answer <= BAD) {
            now = before;
            return refuse(answer);
        }
        leave(before);
        return answer;
    }

    int of(int i, int what) {
        if (noShip(i) || bad(what, 0, 5)) return refuse(BAD);
        Ship s = now.ships.get(i);
        return new int[] {s.x, s.y, s.h, s.s, s.s * vector(s.h)[0], s.s * vector(s.h)[1]}[what];
    }

    private boolean noPair(int a, int b) { return noShip(a) || noShip(b) || a == b; }

    long closest(int a, int b, int what) {
        if (noPair(a, b) || bad(what, 0, 3)) return refuse(BAD);
        Closest c = closest(now.ships.get(a), now.ships.get(b));
        Fraction f = what < 2 ? c.time : c.distance;
        return (what % 2 == 0 ? f.above : f.below).longValueExact();
    }

    int risk(int a, int b) { return noPair(a, b) ? refuse(BAD) : risk(now.ships.get(a), now.ships.get(b)) ? 1 : 0; }
    int sector(int a, int b) { return noPair(a, b) ? refuse(BAD) : sector(now.ships.get(a), now.ships.get(b)); }
    int table(int a, int b) { return noPair(a, b) ? refuse(BAD) : table(now.ships.get(a), now.ships.get(b)); }
    int duty(int i) { return noOther(i) ? refuse(BAD) : now.ships.get(i).duty; }

    int worst() {
        int worst = NONE;
        Closest least = null;
        Ship own = now.ships.get(0);
        for (int i = now.ships.size() - 1; i > 0; i--) {
            if (!risk(own, now.ships.get(i))) continue;
            Closest c = closest(own, now.ships.get(i));
            int order = least == null ? -1 : c.time.compareTo(least.time);
            if (order == 0) order = c.distance.compareTo(least.distance);
            if (order <= 0) { least = c; worst = i; }
        }
        return worst;
    }

    int clearOf(int i, int h, int s) { return noShip(i) || bad(h, 0, 15) || bad(s, 0, 9) ? refuse(BAD) : clear(i, h, s) ? 1 : 0; }

    int blocked(int i) {
        if (noOther(i)) return refuse(BAD);
        Ship own = now.ships.get(0);
        int bits = 0;
        for (int h = 15; h >= 0; h--) bits = 2 * bits + (risk(own.with(h, own.s), now.ships.get(i)) ? 1 : 0);
        return bits;
    }

    int adviceOf(int i) { return noShip(i) ? refuse(BAD) : advice(i); }

    int count(int what) {
        if (bad(what, 0, 3)) return refuse(BAD);
        return new int[] {now.ships.size() - 1, now.safe, now.span, now.steps}[what];
    }

    int type(int c) {
        if (bad(c, 0, 127)) return refuse(BAD);
        if (text.length() == 150) return refuse(FULL);
        text.append((char) c);
        return text.length();
    }

    int wipes() {
        int had = text.length();
        text.setLength(0);
        return had;
    }

    private static final String N = "[0-9]{1,4}";
    private static final String ORDER = "(?:[ao] *-?" + N + "(?: *-| +)" + N + " +" + N + " +" + N
        + "|[ts] *" + N + " +" + N + "|n *" + N + "|b) *;";
    private static final Pattern WHOLE = Pattern.compile(" *(?:" + ORDER + " *)+");

    /** The first place at which no text that goes on from there could be right. */
    private int fault() {
        for (int end = 1; end <= text.length(); end++) {
            Matcher m = WHOLE.matcher(text.substring(0, end));
            if (!m.matches() && !m.hitEnd()) return end - 1;
        }
        return WHOLE.matcher(text).matches() ? -1 : text.length();
    }

    int does() {
        int fault = fault();
        if (fault >= 0) return -10 - fault;
        State before = now.copy();
        String[] orders = text.toString().split(";");
        int done = 0;
        for (String o : orders) {
            String order = o.trim();
            if (order.isEmpty()) continue;
            Matcher m = Pattern.compile("-?[0-9]+").matcher(order);
            int[] n = new int[4];
            for (int k = 0; m.find(); k++) n[k] = Integer.parseInt(m.group());
            char kind = order.charAt(0);
            int answer = kind == 't' ? order('v', 0, n[0], n[1], 0) : order(kind, n[0], n[1], n[2], n[3]);
            if (answer <= BAD) {
                now = before;
                return -1000 - done;
            }
            done++;
        }
        leave(before);
        return done;
    }

    int back() {
        if (states.isEmpty()) return refuse(NO);
        now = states.remove(states.size() - 1);
        return states.size();
    }

    int told(int what) {
        if (bad(what, 0, 4)) return refuse(BAD);
        return what < 3 ? refused[what] : what == 3 ? text.length() : states.size();
    }

    long digest() {
        List<Long> vs = new ArrayList<>();
        for (int w = 0; w <= 4; w++) vs.add((long) told(w));
        for (int w = 0; w <= 3; w++) vs.add((long) count(w));
        for (int i = 0; i < now.ships.size(); i++) {
            for (int w = 0; w <= 3; w++) vs.add((long) of(i, w));
            vs.add((long) advice(i));
        }
        for (int i = 1; i < now.ships.size(); i++) {
            vs.add((long) duty(i));
            for (int w = 0; w <= 3; w++) vs.add(closest(0, i, w));
            vs.add((long) sector(0, i));
            vs.add((long) sector(i, 0));
            vs.add((long) blocked(i));
        }
        vs.add((long) worst());
        long h = 1934;
        for (long v : vs) h = 31 * h + v;
        return h;
    }
}
