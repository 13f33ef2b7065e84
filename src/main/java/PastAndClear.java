/** A watch kept on other ships: ../shared/DOC.md says what every call answers. */
public final class PastAndClear {
    public static final int NONE = -10001, BAD = -10002, NO = -10003, FULL = -10004;

    private static final int OWN = 0;
    private static final int GIVE_WAY = 1, HOLD = 2;
    private static final int AHEAD = 0, STARBOARD = 1, PORT = 2, ASTERN = 3;
    private static final int HEADINGS = 16, STOP = 16, NO_WAY_OUT = 17;

    private final Fleet fleet;
    private final History history;
    private final Script script;
    private int bads, noes, fulls;

    public PastAndClear() {
        fleet = new Fleet();
        history = new History();
        script = new Script();
    }

    // ---- ships

    public int adds(int x, int y, int h, int s) {
        history.mark(fleet.cells);
        return changed(fleet.join(x, y, h, s));
    }

    public int own(int x, int y, int h, int s) {
        history.mark(fleet.cells);
        return changed(fleet.placeOwn(x, y, h, s));
    }

    public int drops(int i) {
        history.mark(fleet.cells);
        return changed(fleet.leave(i));
    }

    public int veers(int i, int h, int s) {
        history.mark(fleet.cells);
        return changed(fleet.steer(i, h, s));
    }

    public int sets(int k, int v) {
        history.mark(fleet.cells);
        return changed(fleet.setRule(k, v));
    }

    public int steps(int k) {
        history.mark(fleet.cells);
        return changed(fleet.goOn(k));
    }

    public int looks() {
        history.mark(fleet.cells);
        fleet.look();
        return changed(fleet.givenWay());
    }

    public int obeys() {
        history.mark(fleet.cells);
        return changed(fleet.follow(fleet.adviceFor(OWN)));
    }

    // ---- closest

    public int of(int i, int what) {
        if (!fleet.isShip(i) || what < 0 || what > 5) return answered(BAD);
        return fleet.partOf(i, what);
    }

    public long closest(int a, int b, int what) {
        if (!fleet.isPair(a, b) || what < 0 || what > 3) return answered(BAD);
        return fleet.approachOf(a, b).part(what);
    }

    public int risk(int a, int b) {
        if (!fleet.isPair(a, b)) return answered(BAD);
        return fleet.haveRisk(a, b) ? 1 : 0;
    }

    public int sector(int a, int b) {
        if (!fleet.isPair(a, b)) return answered(BAD);
        return fleet.sectorOf(a, b);
    }

    public int table(int a, int b) {
        if (!fleet.isPair(a, b)) return answered(BAD);
        return fleet.tableOf(a, b);
    }

    public int duty(int i) {
        if (!fleet.isOther(i)) return answered(BAD);
        return fleet.dutyTo(i);
    }

    public int worst() {
        return fleet.worstOther();
    }

    // ---- turns

    public int clear(int i, int h, int s) {
        if (!fleet.isShip(i) || !isCourse(h, s)) return answered(BAD);
        return fleet.isClear(i, h, s) ? 1 : 0;
    }

    public int blocked(int i) {
        if (!fleet.isOther(i)) return answered(BAD);
        return fleet.blockedBy(i);
    }

    public int advice(int i) {
        if (!fleet.isShip(i)) return answered(BAD);
        return fleet.adviceFor(i);
    }

    public int count(int what) {
        if (what < 0 || what > 3) return answered(BAD);
        return fleet.countOf(what);
    }

    // ---- texts

    public int type(int c) {
        return answered(script.append(c));
    }

    public int wipes() {
        return script.empty();
    }

    public int does() {
        int fault = script.faultPlace();
        if (fault >= 0) return -10 - fault;
        history.mark(fleet.cells);
        script.rewind();
        int done = 0;
        while (done < Script.MOST_ORDERS && script.hasMore()) {
            if (!script.readOrder() || isRefusal(perform())) {
                history.restore(fleet.cells);
                return -1000 - done;
            }
            done++;
        }
        history.keep();
        return done;
    }

    public int back() {
        if (history.kept == 0) return answered(NO);
        history.takeBack(fleet.cells);
        return history.kept;
    }

    public int told(int what) {
        if (what < 0 || what > 4) return answered(BAD);
        return tally(what);
    }

    public long digest() {
        long h = 1934;
        for (int what = 0; what <= 4; what++) h = 31 * h + tally(what);
        for (int what = 0; what <= 3; what++) h = 31 * h + fleet.countOf(what);
        for (int i = OWN; i <= fleet.others(); i++) h = fleet.foldShip(h, i);
        for (int i = OWN + 1; i <= fleet.others(); i++) h = fleet.foldOther(h, i);
        return 31 * h + fleet.worstOther();
    }

    /** The order that was read last, done as its call would do it, but uncounted. */
    private int perform() {
        int[] n = script.numbers;
        switch (script.kind) {
            case 'a': return fleet.join(n[0], n[1], n[2], n[3]);
            case 'o': return fleet.placeOwn(n[0], n[1], n[2], n[3]);
            case 't': return fleet.steer(OWN, n[0], n[1]);
            case 'n': return fleet.goOn(n[0]);
            case 'b': return fleet.follow(fleet.adviceFor(OWN));
            default: return fleet.setRule(n[0], n[1]);
        }
    }

    private int tally(int what) {
        switch (what) {
            case 0: return bads;
            case 1: return noes;
            case 2: return fulls;
            case 3: return script.length;
            default: return history.kept;
        }
    }

    /** Ends a call told S: the state marked before it is kept, if it was not refused. */
    private int changed(int answer) {
        if (!isRefusal(answer)) history.keep();
        return answered(answer);
    }

    private int answered(int answer) {
        if (answer == BAD) bads++;
        if (answer == NO) noes++;
        if (answer == FULL) fulls++;
        return answer;
    }

    private static boolean isRefusal(int answer) {
        return answer == BAD || answer == NO || answer == FULL;
    }

    private static boolean isCourse(int h, int s) {
        return h >= 0 && h < HEADINGS && s >= 0 && s <= 9;
    }

    /** All that a STATE holds, in one row of cells so that it is copied at once. */
    private static final class Fleet {
        // The first four of a ship's cells are numbered as by of(), the last four of all as by count().
        static final int X = 0, Y = 1, HEADING = 2, SPEED = 3, DUTY = 4, WIDTH = 5;
        static final int MOST_SHIPS = 7, COUNTS = 35, OTHERS = 35, SAFE = 36, SPAN = 37, STEPS = 38, CELLS = 39;
        static final int FURTHEST = 9999;

        private static final int[] EAST = {0, 4, 7, 9, 10, 9, 7, 4, 0, -4, -7, -9, -10, -9, -7, -4};
        private static final int[] NORTH = {10, 9, 7, 4, 0, -4, -7, -9, -10, -9, -7, -4, 0, 4, 7, 9};

        final int[] cells;
        private final Approach approach, worstYet;

        Fleet() {
            cells = new int[CELLS];
            cells[SAFE] = 50;
            cells[SPAN] = 12;
            approach = new Approach();
            worstYet = new Approach();
        }

        int others() {
            return cells[OTHERS];
        }

        boolean isShip(int i) {
            return i >= OWN && i <= cells[OTHERS];
        }

        boolean isOther(int i) {
            return i > OWN && i <= cells[OTHERS];
        }

        boolean isPair(int a, int b) {
            return isShip(a) && isShip(b) && a != b;
        }

        int dutyTo(int i) {
            return cells[WIDTH * i + DUTY];
        }

        int countOf(int what) {
            return cells[COUNTS + what];
        }

        int partOf(int i, int what) {
            if (what == 4) return eastward(i);
            if (what == 5) return northward(i);
            return cells[WIDTH * i + what];
        }

        private int eastward(int i) {
            return cells[WIDTH * i + SPEED] * EAST[cells[WIDTH * i + HEADING] & 15];
        }

        private int northward(int i) {
            return cells[WIDTH * i + SPEED] * NORTH[cells[WIDTH * i + HEADING] & 15];
        }

        int join(int x, int y, int h, int s) {
            if (!isPlace(x) || !isPlace(y) || !isCourse(h, s)) return BAD;
            if (cells[OTHERS] + 1 >= MOST_SHIPS) return FULL;
            cells[OTHERS]++;
            put(cells[OTHERS], x, y, h, s);
            return cells[OTHERS];
        }

        int placeOwn(int x, int y, int h, int s) {
            if (!isPlace(x) || !isPlace(y) || !isCourse(h, s)) return BAD;
            put(OWN, x, y, h, s);
            for (int i = OWN + 1; i <= cells[OTHERS]; i++) cells[WIDTH * i + DUTY] = 0;
            cells[STEPS] = 0;
            return cells[OTHERS];
        }

        private void put(int i, int x, int y, int h, int s) {
            int at = WIDTH * i;
            cells[at + X] = x;
            cells[at + Y] = y;
            cells[at + HEADING] = h;
            cells[at + SPEED] = s;
            cells[at + DUTY] = 0;
        }

        int leave(int i) {
            if (!isOther(i)) return BAD;
            int behind = cells[OTHERS] - i;
            System.arraycopy(cells, WIDTH * (i + 1), cells, WIDTH * i, WIDTH * behind);
            cells[OTHERS]--;
            return cells[OTHERS];
        }

        int steer(int i, int h, int s) {
            if (!isShip(i) || !isCourse(h, s)) return BAD;
            int was = HEADINGS * cells[WIDTH * i + SPEED] + cells[WIDTH * i + HEADING];
            cells[WIDTH * i + HEADING] = h;
            cells[WIDTH * i + SPEED] = s;
            return was;
        }

        int setRule(int k, int v) {
            if (k < 0 || k > 1 || v < 1 || v > (k == 0 ? 999 : 99)) return BAD;
            int was = cells[SAFE + k];
            cells[SAFE + k] = v;
            return was;
        }

        int goOn(int k) {
            if (k < 1 || k > 60) return BAD;
            if (!staysInside(k)) return NO;
            for (int step = 0; step < k; step++) {
                moveAll();
                look();
            }
            cells[STEPS] += k;
            return givenWay();
        }

        /** Ships move straight, so the last step goes furthest. */
        private boolean staysInside(int k) {
            for (int i = OWN; i <= cells[OTHERS]; i++) {
                if (!isPlace(cells[WIDTH * i + X] + k * eastward(i))) return false;
                if (!isPlace(cells[WIDTH * i + Y] + k * northward(i))) return false;
            }
            return true;
        }

        private void moveAll() {
            for (int i = OWN; i <= cells[OTHERS]; i++) {
                cells[WIDTH * i + X] += eastward(i);
                cells[WIDTH * i + Y] += northward(i);
            }
        }

        void look() {
            for (int i = OWN + 1; i <= cells[OTHERS]; i++) {
                if (cells[WIDTH * i + DUTY] == 0) {
                    cells[WIDTH * i + DUTY] = tableOf(OWN, i);
                } else if (approachOf(OWN, i).isPastAndClear(cells[SAFE])) {
                    cells[WIDTH * i + DUTY] = 0;
                }
            }
        }

        int givenWay() {
            int bits = 0;
            for (int i = OWN + 1; i <= cells[OTHERS]; i++) {
                if (cells[WIDTH * i + DUTY] == GIVE_WAY) bits |= 1 << i;
            }
            return bits;
        }

        int follow(int advice) {
            if (advice < HEADINGS) cells[WIDTH * OWN + HEADING] = advice;
            if (advice == STOP) cells[WIDTH * OWN + SPEED] = 0;
            return advice;
        }

        /** CLOSEST of a and b; the answer is used before the next is asked for, as there is but one. */
        Approach approachOf(int a, int b) {
            measure(a, cells[WIDTH * a + HEADING], cells[WIDTH * a + SPEED], b);
            return approach;
        }

        boolean haveRisk(int a, int b) {
            measure(a, cells[WIDTH * a + HEADING], cells[WIDTH * a + SPEED], b);
            return approach.isRisk(cells[SAFE], cells[SPAN]);
        }

        private boolean wouldRisk(int a, int h, int s, int b) {
            measure(a, h, s, b);
            return approach.isRisk(cells[SAFE], cells[SPAN]);
        }

        /** CLOSEST of a and b, were a's HEADING h, its SPEED s; not yet in lowest terms. */
        private void measure(int a, int h, int s, int b) {
            int heading = cells[WIDTH * b + HEADING];
            int speed = cells[WIDTH * b + SPEED];
            long rx = cells[WIDTH * b + X] - cells[WIDTH * a + X];
            long ry = cells[WIDTH * b + Y] - cells[WIDTH * a + Y];
            // Written out rather than asked of eastward(): this is the deepest call, and rule 11 keeps calls shallow.
            long vx = speed * EAST[heading & 15] - s * EAST[h & 15];
            long vy = speed * NORTH[heading & 15] - s * NORTH[h & 15];
            long parting = rx * vx + ry * vy;
            // V (0, 0) parts by 0, so it needs no test of its own.
            if (parting >= 0) {
                approach.timeAbove = 0;
                approach.timeBelow = 1;
                approach.nearAbove = rx * rx + ry * ry;
                approach.nearBelow = 1;
                return;
            }
            long cross = rx * vy - ry * vx;
            approach.timeAbove = -parting;
            approach.timeBelow = vx * vx + vy * vy;
            approach.nearAbove = cross * cross;
            approach.nearBelow = approach.timeBelow;
        }

        int sectorOf(int a, int b) {
            int ux = EAST[cells[WIDTH * a + HEADING] & 15];
            int uy = NORTH[cells[WIDTH * a + HEADING] & 15];
            int rx = cells[WIDTH * b + X] - cells[WIDTH * a + X];
            int ry = cells[WIDTH * b + Y] - cells[WIDTH * a + Y];
            int p = ux * rx + uy * ry;
            int q = ux * ry - uy * rx;
            if (rx == 0 && ry == 0) return AHEAD;
            if (p > 0 && 4 * Math.abs(q) <= p) return AHEAD;
            if (p < 0 && Math.abs(q) <= -2 * p) return ASTERN;
            return q < 0 ? STARBOARD : PORT;
        }

        int tableOf(int a, int b) {
            if (!haveRisk(a, b)) return 0;
            int m = sectorOf(a, b);
            int n = sectorOf(b, a);
            if (n == ASTERN) return GIVE_WAY;
            if (m == ASTERN) return HOLD;
            if (m == STARBOARD) return GIVE_WAY;
            if (m == PORT) return HOLD;
            return n == STARBOARD ? HOLD : GIVE_WAY;
        }

        int worstOther() {
            int worst = NONE;
            for (int i = OWN + 1; i <= cells[OTHERS]; i++) {
                if (haveRisk(OWN, i) && (worst == NONE || approach.isWorse(worstYet))) {
                    worst = i;
                    worstYet.take(approach);
                }
            }
            return worst;
        }

        boolean isClear(int a, int h, int s) {
            for (int b = OWN; b <= cells[OTHERS]; b++) {
                if (b != a && wouldRisk(a, h, s, b)) return false;
            }
            return true;
        }

        int blockedBy(int i) {
            int bits = 0;
            for (int h = 0; h < HEADINGS; h++) {
                if (wouldRisk(OWN, h, cells[WIDTH * OWN + SPEED], i)) bits |= 1 << h;
            }
            return bits;
        }

        int adviceFor(int a) {
            return mustGiveWay(a) ? turnFor(a) : cells[WIDTH * a + HEADING];
        }

        private boolean mustGiveWay(int a) {
            if (a == OWN) return givenWay() != 0;
            for (int b = OWN; b <= cells[OTHERS]; b++) {
                if (b != a && tableOf(a, b) == GIVE_WAY) return true;
            }
            return false;
        }

        private int turnFor(int a) {
            int heading = cells[WIDTH * a + HEADING];
            int speed = cells[WIDTH * a + SPEED];
            for (int turn = 1; turn <= 8; turn++) {
                int toStarboard = (heading + turn) & 15;
                if (isClear(a, toStarboard, speed)) return toStarboard;
            }
            for (int turn = 1; turn <= 7; turn++) {
                int toPort = (heading - turn) & 15;
                if (isClear(a, toPort, speed)) return toPort;
            }
            return isClear(a, heading, 0) ? STOP : NO_WAY_OUT;
        }

        long foldShip(long h, int i) {
            for (int what = 0; what <= 3; what++) h = 31 * h + partOf(i, what);
            return 31 * h + adviceFor(i);
        }

        long foldOther(long h, int i) {
            h = 31 * h + dutyTo(i);
            Approach seen = approachOf(OWN, i);
            for (int what = 0; what <= 3; what++) h = 31 * h + seen.part(what);
            h = 31 * h + sectorOf(OWN, i);
            h = 31 * h + sectorOf(i, OWN);
            return 31 * h + blockedBy(i);
        }

        private static boolean isPlace(int v) {
            return v >= -FURTHEST && v <= FURTHEST;
        }
    }

    /** CLOSEST of two ships: TIME and DISTANCE squared as fractions. */
    private static final class Approach {
        long timeAbove, timeBelow, nearAbove, nearBelow;

        Approach() {
            timeBelow = 1;
            nearBelow = 1;
        }

        void take(Approach other) {
            timeAbove = other.timeAbove;
            timeBelow = other.timeBelow;
            nearAbove = other.nearAbove;
            nearBelow = other.nearBelow;
        }

        boolean isRisk(long safe, long span) {
            return nearAbove < safe * safe * nearBelow && timeAbove <= span * timeBelow;
        }

        /** TIME is 0 just where they part or keep their distance, and near is then the DISTANCE now. */
        boolean isPastAndClear(long safe) {
            return timeAbove == 0 && nearAbove >= safe * safe;
        }

        boolean isWorse(Approach other) {
            long sooner = other.timeAbove * timeBelow - timeAbove * other.timeBelow;
            if (sooner != 0) return sooner > 0;
            return nearAbove * other.nearBelow < other.nearAbove * nearBelow;
        }

        long part(int what) {
            if (what < 2) return lowest(timeAbove, timeBelow, what == 0);
            return lowest(nearAbove, nearBelow, what == 2);
        }

        private static long lowest(long above, long below, boolean wantsAbove) {
            long shared = sharedDivisor(above, below);
            if (shared == 0) return 0;
            return (wantsAbove ? above : below) / shared;
        }

        private static long sharedDivisor(long p, long q) {
            // Euclid's way through longs never takes more than 92 turns.
            for (int turn = 0; turn < 100 && q != 0; turn++) {
                long left = p % q;
                p = q;
                q = left;
            }
            return p;
        }
    }

    /** The STATES to go back to, oldest first, and behind them the one marked before a call. */
    private static final class History {
        static final int MOST_STATES = 5;

        private final int[] rows;
        int kept;

        History() {
            rows = new int[(MOST_STATES + 1) * Fleet.CELLS];
        }

        void mark(int[] cells) {
            System.arraycopy(cells, 0, rows, kept * Fleet.CELLS, Fleet.CELLS);
        }

        void restore(int[] cells) {
            System.arraycopy(rows, kept * Fleet.CELLS, cells, 0, Fleet.CELLS);
        }

        void keep() {
            if (kept < MOST_STATES) {
                kept++;
            } else {
                System.arraycopy(rows, Fleet.CELLS, rows, 0, MOST_STATES * Fleet.CELLS);
            }
        }

        void takeBack(int[] cells) {
            if (kept == 0) return;
            kept--;
            restore(cells);
        }
    }

    /** THE TEXT, and a reader that goes through it order by order. */
    private static final class Script {
        static final int MOST_BYTES = 150, MOST_FIGURES = 4;
        // The shortest order, b; has two bytes.
        static final int MOST_ORDERS = MOST_BYTES / 2;
        private static final int END = -1;

        private final byte[] bytes;
        int length;
        private int at;
        int kind;
        final int[] numbers;

        Script() {
            bytes = new byte[MOST_BYTES];
            numbers = new int[4];
        }

        int append(int c) {
            if (c < 0 || c > 127) return BAD;
            if (length >= MOST_BYTES) return FULL;
            bytes[length] = (byte) c;
            length++;
            return length;
        }

        int empty() {
            int had = length;
            length = 0;
            return had;
        }

        /** The FAULT, or -1 if there is none. */
        int faultPlace() {
            rewind();
            if (!hasMore()) return length;
            for (int orders = 0; orders < MOST_ORDERS && hasMore(); orders++) {
                if (!readOrder()) return at;
            }
            return -1;
        }

        void rewind() {
            at = 0;
            skipBlanks();
        }

        boolean hasMore() {
            return at < length;
        }

        /** Reads kind and numbers; false at a fault, and the reader then stands where the fault is. */
        boolean readOrder() {
            kind = next();
            int wanted = numbersOf(kind);
            if (wanted < 0) return false;
            at++;
            boolean hasPlace = kind == 'a' || kind == 'o';
            for (int k = 0; k < wanted; k++) {
                skipBlanks();
                if (!readNumber(k, hasPlace && k < 2)) return false;
            }
            skipBlanks();
            if (next() != ';') return false;
            at++;
            skipBlanks();
            return true;
        }

        private boolean readNumber(int k, boolean mayBeNegative) {
            boolean negative = mayBeNegative && next() == '-';
            if (negative) at++;
            if (!isFigure(next())) return false;
            int value = 0;
            for (int figures = 0; figures < MOST_FIGURES && isFigure(next()); figures++) {
                value = 10 * value + next() - '0';
                at++;
            }
            numbers[k] = negative ? -value : value;
            return !isFigure(next());
        }

        private void skipBlanks() {
            while (at < length && next() == ' ') at++;
        }

        private int next() {
            return at >= 0 && at < length && at < MOST_BYTES ? bytes[at] : END;
        }

        private static boolean isFigure(int c) {
            return c >= '0' && c <= '9';
        }

        private static int numbersOf(int kind) {
            switch (kind) {
                case 'a': case 'o': return 4;
                case 't': case 's': return 2;
                case 'n': return 1;
                case 'b': return 0;
                default: return -1;
            }
        }
    }
}
