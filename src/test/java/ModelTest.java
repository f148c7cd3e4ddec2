/**
 * Long runs of calls, made up from a fixed row of numbers, asked of TwoReels and of PlainModel alike. Whatever the
 * numbers (far out of their bounds, too), TwoReels answers, and answers as the plain model does.
 */
public final class ModelTest {
    private static final int RUNS = 160;
    private static final int CALLS = 512;
    private static final int TEXT_CALLS = 60;
    private static final int[] WILD = {Integer.MIN_VALUE, -1000000, -5, -4, -3, -2, -1, 0, 1, 2, 3, 7, 8, 9, 10, 12,
        13, 17, 18, 39, 40, 41, 99, 100, 255, 256, 400, 999, 1000, 9999, 10000, 999999, 1000000, 65536,
        Integer.MAX_VALUE};
    private static final String[] NAMES = Due.RULES;
    private static final int[] LOW = Due.RULES_LEAST;
    private static final int[] HIGH = Due.RULES_MOST;

    private static long seed = 20261119L;
    private static TwoReels x;
    private static PlainModel m;
    private static int calls;

    public static void main(String[] args) {
        for (int run = 0; run < RUNS; run++) {
            x = new TwoReels();
            m = new PlainModel();
            Due.topic("model run " + run);
            calls = 0;
            while (calls < CALLS - TEXT_CALLS && Due.wrongSoFar() == 0) {
                if (calls == 0 || pick(150) == 0) tellText(run % 4 == 0);
                else oneCall();
            }
        }
        Due.close();
    }

    private static int pick(int below) {
        seed = seed * 6364136223846793005L + 1442695040888963407L;
        return (int) ((seed >>> 33) % below);
    }

    /** Mostly a number from low to high, now and then one at the edge, or a wild one. */
    private static int some(int low, int high) {
        switch (pick(24)) {
            case 0: return low - 1;
            case 1: return high + 1;
            case 2: return low;
            case 3: return high;
            case 4: return WILD[pick(WILD.length)];
            default: return low + pick(high - low + 1);
        }
    }

    private static int place() {
        int b = pick(3) == 0 ? m.block(pick(12), pick(2) * 4) : -1;
        if (b >= 0) return b - 1 + pick(3);
        return pick(6) == 0 ? some(0, 9999) : some(0, m.rule(0));
    }

    private static int blockNumber() {
        return some(0, Math.max(0, m.count(0) - 1));
    }

    private static void same(String call, int got, int want) {
        calls++;
        Due.is(call, got, want);
    }

    private static void tellText(boolean isShort) {
        String text = isShort ? loose() : lines();
        same("end(0)", x.end(0), m.end(0));
        for (long v : Due.eights(text)) same("feed(" + v + ")", x.feed(v), m.feed(v));
        int size = Math.min(text.length(), 400);
        same("end(" + size + ")", x.end(size), m.end(size));
        same("text() of [" + text + "]", x.text(), m.text());
        same("fault() of [" + text + "]", x.fault(), m.fault());
    }

    private static String blanks() {
        return pick(5) == 0 ? " ".repeat(pick(3)) : "";
    }

    private static String lines() {
        StringBuilder s = new StringBuilder(blanks());
        boolean[] told = new boolean[9];
        int lines = pick(14);
        for (int i = 0; i < lines && s.length() < 360; i++) {
            int r = pick(2) == 0 ? pick(9) : 9;
            if (r < 9 && (!told[r] || pick(60) == 0)) {
                told[r] = true;
                int v = pick(80) == 0 ? some(LOW[r], HIGH[r]) : LOW[r] + pick(HIGH[r] - LOW[r] + 1);
                if (r == 0 && pick(2) == 0) v = 60 + pick(400);
                if (r > 2 && pick(2) == 0) v = LOW[r] + pick(Math.min(9, HIGH[r] - LOW[r] + 1));
                s.append(NAMES[r]).append(pick(2) == 0 ? " " : "").append(v);
            } else if (pick(4) == 0) {
                s.append("mark");
            } else {
                s.append("block");
                int n = 1 + pick(pick(30) == 0 ? 14 : 6);
                for (int j = 0; j < n; j++) s.append(' ').append(pick(300) == 0 ? 256 : pick(256));
            }
            s.append(blanks()).append(pick(90) == 0 ? "" : ";").append(blanks());
        }
        if (pick(8) == 0 && s.length() > 0) s.setCharAt(pick(s.length()), (char) pick(256));
        return s.toString();
    }

    /** TOKENS in no order, to meet FAULTS of every kind. */
    private static String loose() {
        String[] tokens = {"length", "hub", "thick", "play", "block", "mark", "marks", ";", ";", ";", "5", "20", "0",
            "256", "9999", "12345", " ", ".", "hub 5;", "mark;", "mark;mark;mark;", "block 1;", "block 1 2 3 4 5 6 ",
            "block 9 9 9 9 9 9 9 9 9 9 9 9;", "length 20;", "7 7 7", "gap 99;"};
        StringBuilder s = new StringBuilder();
        int count = pick(16);
        for (int i = 0; i < count; i++) s.append(tokens[pick(tokens.length)]).append(pick(2) == 0 ? "" : " ");
        return s.toString();
    }

    private static void oneCall() {
        int kind = pick(46);
        if (kind < 10) reelCall(kind);
        else if (kind < 20) blockCall(kind);
        else if (kind < 30) readCall(kind);
        else if (kind < 37) tapeCall(kind);
        else sheetCall(kind);
    }

    private static void reelCall(int kind) {
        int a = place();
        int b = place();
        int w = some(0, 2);
        boolean yes = pick(2) == 0;
        switch (kind) {
            case 0: same("rule", x.rule(w = some(0, 8)), m.rule(w)); break;
            case 1: same("turns(" + a + ")", x.turns(a, yes), m.turns(a, yes)); break;
            case 2:
                b = some(0, 60);
                w = some(0, 1);
                same("shows(" + b + ", " + w + ")", x.shows(b, w), m.shows(b, w));
                break;
            case 3: same("meet", x.meet(), m.meet()); break;
            case 4:
            case 5: same("ticks(" + a + ", " + b + ", " + w + ")", x.ticks(a, b, w), m.ticks(a, b, w)); break;
            case 6: same("go(" + a + ")", x.go(a), m.go(a)); break;
            case 7: same("now", x.now(w = some(0, 5)), m.now(w)); break;
            default:
                int y = pick(2) == 0 ? some(0, 400) : some(0, 999999);
                same("within(" + y + ", " + yes + ")", x.within(y, yes), m.within(y, yes));
        }
    }

    private static void blockCall(int kind) {
        int b = blockNumber();
        int w = some(0, 4);
        int v = some(0, 255);
        int k = some(0, m.count(0));
        switch (kind) {
            case 10: same("block(" + b + ", " + w + ")", x.block(b, w), m.block(b, w)); break;
            case 11: same("blockAt", x.blockAt(w = place()), m.blockAt(w)); break;
            case 12:
            case 13:
            case 14: same("type(" + v + ")", x.type(v), m.type(v)); break;
            case 15:
            case 16: same("write(" + k + ")", x.write(k = pick(2) == 0 ? m.count(0) : k), m.write(k)); break;
            case 17: same("mark(" + k + ")", x.mark(k = pick(2) == 0 ? m.count(0) : k), m.mark(k)); break;
            default: same("dead", x.dead(v = pick(3) > 0 ? -4 : some(0, 8)), m.dead(v));
        }
    }

    private static void readCall(int kind) {
        int b = blockNumber();
        int i = some(0, Math.max(0, m.block(b, 2)));
        int t = some(0, 8);
        switch (kind) {
            case 20:
            case 21: same("spoil(" + b + ", " + i + ", " + t + ")", x.spoil(b, i, t), m.spoil(b, i, t)); break;
            case 22: same("check(" + b + ")", x.check(b), m.check(b)); break;
            case 23: same("got(" + b + ", " + i + ")", x.got(b, i), m.got(b, i)); break;
            case 24: same("column(" + b + ", " + i + ")", x.column(b, i), m.column(b, i)); break;
            case 25:
            case 26: same("state", x.state(t = some(0, 2)), m.state(t)); break;
            case 27: same("best", x.best(t = some(0, 1)), m.best(t)); break;
            case 28: orderCall(); break;
            default: int s = someBlocks(7); same("reads(" + s + ")", x.reads(s), m.reads(s));
        }
    }

    /** As many permutations as the plain model can be asked for; more than 8 are refused by both. */
    private static int someBlocks(int most) {
        if (pick(20) == 0) return some(0, 4095);
        int bits = 0;
        int blocks = m.count(0);
        for (int j = 0; j < most && blocks > 0; j++) bits |= 1 << pick(blocks);
        return bits;
    }

    private static void orderCall() {
        int s = someBlocks(pick(30) == 0 ? 8 : 6);
        int w = pick(2) == 0 ? 0 : some(10, 17);
        if (Integer.bitCount(s) > 6 && Integer.bitCount(s) < 9 && pick(4) > 0) s &= 15;
        same("order(" + s + ", " + w + ")", x.order(s, w), m.order(s, w));
    }

    private static void tapeCall(int kind) {
        int n = some(1, 99);
        int l = pick(2) == 0 ? some(1, 9) : some(1, 99);
        int every = pick(12) == 0 ? some(0, 9999) : some(0, 150);
        int room = some(1, pick(2) == 0 ? 6 : 99);
        int w = some(0, 1);
        switch (kind) {
            case 30:
                int a = place();
                int b = pick(3) == 0 ? place() : a + 1 + pick(12);
                same("cut(" + a + ", " + b + ")", x.cut(a, b), m.cut(a, b));
                break;
            case 31: same("holds(" + n + ")", x.holds(n), m.holds(n)); break;
            case 32: same("most(" + w + ")", x.most(w), m.most(w)); break;
            case 33:
            case 34:
                same("stream(" + n + ", " + l + ", " + every + ", " + room + ", " + w + ")",
                    x.stream(n, l, every, room, w), m.stream(n, l, every, room, w));
                break;
            case 35:
                n = some(1, 12);
                same("buffer(" + n + ", " + l + ", " + every + ", " + w + ")",
                    x.buffer(n, l, every, w), m.buffer(n, l, every, w));
                break;
            default: same("count", x.count(w = some(0, 6)), m.count(w));
        }
    }

    private static void sheetCall(int kind) {
        int k = pick(3) > 0 ? 0 : some(0, 3);
        int lane = pick(3) > 0 ? 0 : some(0, 2);
        int i = some(0, 12);
        int v = pick(3) > 0 ? some(0, 255) : some(-70000, 70000);
        switch (kind) {
            case 37: same("sheet", x.sheet(k, lane, i = some(0, 40)), m.sheet(k, lane, i)); break;
            case 38:
            case 39: same("lay(" + k + ", " + i + ", " + v + ")", x.lay(k, i, v), m.lay(k, i, v)); break;
            case 40: {
                int n = some(0, pick(2) == 0 ? 3 : 12);
                String told = "read(" + k + ", " + lane + ", " + i + ", " + n + ")";
                same(told, x.read(k, lane, i, n), m.read(k, lane, i, n));
                same("torn", x.torn(), m.torn());
                break;
            }
            case 41: seenCall(); break;
            case 42: same("forget", x.forget(), m.forget()); break;
            case 43: same("keep", x.keep(i = some(0, 1)), m.keep(i)); break;
            case 44: same("back", x.back(i = some(0, 1)), m.back(i)); break;
            default: same("end", x.end(i), m.end(i));
        }
    }

    private static void seenCall() {
        int p = place();
        int c = pick(3) == 0 ? some(0, 999) : Math.max(0, m.turns(p, false));
        same("saw(" + c + ", " + p + ")", x.saw(c, p), m.saw(c, p));
        int w = some(0, 2);
        same("fits(" + w + ")", x.fits(w), m.fits(w));
    }
}
