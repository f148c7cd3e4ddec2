import java.util.ArrayList;
import java.util.List;
import java.util.regex.Matcher;
import java.util.regex.Pattern;

/**
 * The document once more, in the slowest and plainest way: reels wound turn by turn, places tried one by one,
 * every permutation of an order. ModelTest asks it and TwoReels the same calls.
 */
final class PlainModel {
    private static final int BAD = -1, STATE = -2, FULL = -3, NONE = -4;
    private static final String[] NAMES = {"length", "hub", "thick", "play", "wind", "ramp", "gap", "dense", "hitch"};
    private static final int[] LOW = {20, 5, 1, 1, 1, 0, 0, 1, 0};
    private static final int[] HIGH = {9999, 99, 9, 99, 99, 99, 99, 9, 999};
    private static final int[] AT_FIRST = {1000, 20, 2, 10, 5, 3, 6, 2, 20};

    private static final class Piece {
        int begin;
        List<Integer> bytes = new ArrayList<>();
        boolean[][] bits;   // by column, by track

        Piece copy() {
            Piece p = new Piece();
            p.begin = begin;
            p.bytes = new ArrayList<>(bytes);
            p.bits = new boolean[bits.length][];
            for (int i = 0; i < bits.length; i++) p.bits[i] = bits[i].clone();
            return p;
        }
    }

    private static final class All {
        int[] rules = AT_FIRST.clone();
        List<Piece> pieces = new ArrayList<>();
        int head = 0;
        int ticks = 0;
        List<Integer> typed = new ArrayList<>();
        int dead = NONE;
        List<int[]> seen = new ArrayList<>();

        All copy() {
            All a = new All();
            a.rules = rules.clone();
            for (Piece p : pieces) a.pieces.add(p.copy());
            a.head = head;
            a.ticks = ticks;
            a.typed = new ArrayList<>(typed);
            a.dead = dead;
            a.seen = new ArrayList<>(seen);
            return a;
        }
    }

    private static final class Refusal extends RuntimeException {
        private static final long serialVersionUID = 1L;
        final int code;
        final int place;

        Refusal(int code, int place) {
            this.code = code;
            this.place = place;
        }
    }

    private String letters = "";
    private int faultCode = 0;
    private All all = new All();
    private final All[] images = new All[2];
    private final Object[] sheets = new Object[4];
    private int readFault = 0;

    // ---- the text

    int feed(long v) {
        if (letters.length() + 8 > 400) return FULL;
        for (int i = 7; i >= 0; i--) letters += (char) (v >> 8 * i & 255);
        return letters.length();
    }

    int end(int n) {
        if (n < 0 || n > letters.length()) return BAD;
        int were = letters.length();
        letters = letters.substring(0, n);
        return were;
    }

    int text() {
        String source = letters;
        letters = "";
        try {
            Parse parse = new Parse(source);
            int lines = parse.run();
            all = parse.told;
            images[0] = null;
            images[1] = null;
            faultCode = 0;
            return lines;
        } catch (Refusal r) {
            faultCode = r.code;
            return -10 - r.place;
        }
    }

    int fault() {
        return faultCode;
    }

    int rule(int what) {
        return what < 0 || what > 8 ? BAD : all.rules[what];
    }

    private static final class Parse {
        private static final Pattern TOKEN = Pattern.compile(" *([a-z]+|[0-9]+|;|\\z)");
        final String source;
        final All told = new All();
        final Matcher matcher;
        int at = 0;
        int start;
        String token;
        final boolean[] seen = new boolean[9];

        Parse(String source) {
            this.source = source;
            matcher = TOKEN.matcher(source);
        }

        /** The empty token is the end. */
        void next() {
            matcher.region(at, source.length());
            if (!matcher.lookingAt()) {
                int i = at;
                while (source.charAt(i) == ' ') i++;
                throw new Refusal(1, i);
            }
            token = matcher.group(1);
            start = matcher.start(1);
            at = matcher.end();
            if (isNumber() && token.length() > 4) throw new Refusal(1, start);
        }

        boolean isNumber() {
            return !token.isEmpty() && Character.isDigit(token.charAt(0));
        }

        int number(int low, int high) {
            if (!isNumber()) throw new Refusal(2, start);
            int v = Integer.parseInt(token);
            if (v < low || v > high) throw new Refusal(3, start);
            return v;
        }

        void sign() {
            if (!token.equals(";")) throw new Refusal(2, start);
            next();
        }

        int run() {
            int lines = 0;
            next();
            while (!token.isEmpty()) {
                line();
                lines++;
            }
            int place = 0;
            for (Piece p : told.pieces) {
                p.begin = place + told.rules[6];
                place = p.begin + longOf(p, told.rules[7]);
            }
            if (place > told.rules[0]) throw new Refusal(6, source.length());
            return lines;
        }

        void line() {
            for (int r = 0; r < 9; r++) {
                if (!token.equals(NAMES[r])) continue;
                if (seen[r]) throw new Refusal(4, start);
                seen[r] = true;
                next();
                told.rules[r] = number(LOW[r], HIGH[r]);
                next();
                sign();
                return;
            }
            boolean isBlock = token.equals("block");
            if (!isBlock && !token.equals("mark")) throw new Refusal(2, start);
            if (told.pieces.size() == 12) throw new Refusal(5, start);
            List<Integer> bytes = new ArrayList<>();
            next();
            while (isBlock && (bytes.isEmpty() || isNumber())) {
                int v = number(0, 255);
                if (bytes.size() == 12) throw new Refusal(5, start);
                bytes.add(v);
                next();
            }
            told.pieces.add(made(0, bytes));
            sign();
        }
    }

    // ---- reels, ticks

    private static int wind(int amount, int hub, int thick) {
        int turns = 0;
        int nextTurn = hub;
        while (amount >= nextTurn) {
            amount -= nextTurn;
            nextTurn += thick;
            turns++;
        }
        return turns;
    }

    private int right(int x) {
        return wind(x, all.rules[1], all.rules[2]);
    }

    private int left(int x) {
        return wind(all.rules[0] - x, all.rules[1], all.rules[2]);
    }

    private boolean isPlace(int x) {
        return x >= 0 && x <= all.rules[0];
    }

    int turns(int x, boolean left) {
        return !isPlace(x) ? BAD : left ? left(x) : right(x);
    }

    int shows(int c, int what) {
        if (c < 0 || what < 0 || what > 1) return BAD;
        int found = NONE;
        for (int x = 0; x <= all.rules[0]; x++) {
            if (right(x) == c && (found == NONE || what == 1)) found = x;
        }
        return found;
    }

    int meet() {
        for (int x = 0;; x++) {
            if (right(x) >= left(x)) return x;
        }
    }

    int ticks(int x, int y, int what) {
        if (!isPlace(x) || !isPlace(y) || what < 0 || what > 2) return BAD;
        if (x == y) return 0;
        int played = all.rules[5] + Math.abs(x - y) * all.rules[3];
        int more = x < y ? right(y) - right(x) : left(y) - left(x);
        int wound = all.rules[5] + all.rules[5] + more * all.rules[4];
        return what == 0 ? played : what == 1 ? wound : Math.min(played, wound);
    }

    int go(int x) {
        if (!isPlace(x)) return BAD;
        int t = ticks(all.head, x, 2);
        all.head = x;
        all.ticks += t;
        return t;
    }

    private int endOfTape() {
        return all.pieces.isEmpty() ? 0 : endOf(all.pieces.get(all.pieces.size() - 1));
    }

    int now(int what) {
        if (what < 0 || what > 5) return BAD;
        int[] answers = {all.head, all.ticks, right(all.head), all.dead, all.typed.size(), all.rules[0] - endOfTape()};
        return answers[what];
    }

    int within(int y, boolean back) {
        if (y < 0 || y > 999999) return BAD;
        int found = -1;
        for (int x = 0; x <= all.rules[0]; x++) {
            if (ticks(all.head, x, 2) > y) continue;
            if (back) return x;
            found = x;
        }
        return found;
    }

    // ---- blocks

    private static Piece made(int begin, List<Integer> bytes) {
        Piece p = new Piece();
        p.begin = begin;
        p.bytes = new ArrayList<>(bytes);
        p.bits = new boolean[bytes.isEmpty() ? 0 : bytes.size() + 1][9];
        for (int i = 0; i < bytes.size(); i++) {
            int ones = 0;
            for (int t = 0; t < 8; t++) {
                p.bits[i][t] = (bytes.get(i) >> t & 1) == 1;
                if (p.bits[i][t]) ones++;
            }
            p.bits[i][8] = ones % 2 == 0;
            for (int t = 0; t < 9; t++) p.bits[bytes.size()][t] ^= p.bits[i][t];
        }
        return p;
    }

    private static int longOf(Piece p, int dense) {
        int columns = p.bytes.size() + 1;
        int length = 0;
        while (length * dense < columns) length++;
        return p.bytes.isEmpty() ? 1 : length;
    }

    private int endOf(Piece p) {
        return p.begin + longOf(p, all.rules[7]);
    }

    private Piece piece(int b) {
        return b < 0 || b >= all.pieces.size() ? null : all.pieces.get(b);
    }

    private static int number(boolean[] column) {
        int v = 0;
        for (int t = 0; t < 9; t++) v += column[t] ? 1 << t : 0;
        return v;
    }

    int block(int b, int what) {
        Piece p = piece(b);
        if (p == null || what < 0 || what > 4) return BAD;
        int row = p.bytes.isEmpty() ? 0 : number(p.bits[p.bytes.size()]);
        return new int[] {p.begin, longOf(p, all.rules[7]), p.bytes.size(), row, endOf(p)}[what];
    }

    int blockAt(int x) {
        if (!isPlace(x)) return BAD;
        for (int b = 0; b < all.pieces.size(); b++) {
            Piece p = all.pieces.get(b);
            if (x >= p.begin && x < endOf(p)) return b;
        }
        return NONE;
    }

    int type(int v) {
        if (v < 0 || v > 255) return BAD;
        if (all.typed.size() == 12) return FULL;
        all.typed.add(v);
        return all.typed.size();
    }

    int write(int k) {
        if (k < 0 || k > all.pieces.size()) return BAD;
        if (all.typed.isEmpty()) return STATE;
        int t = putDown(k, all.typed);
        if (t >= 0) all.typed.clear();
        return t;
    }

    int mark(int k) {
        if (k < 0 || k > all.pieces.size()) return BAD;
        return putDown(k, List.of());
    }

    private int putDown(int k, List<Integer> bytes) {
        if (k == 12) return FULL;
        int begin = (k == 0 ? 0 : endOf(all.pieces.get(k - 1))) + all.rules[6];
        Piece p = made(begin, bytes);
        if (endOf(p) > all.rules[0]) return FULL;
        int t = ticks(all.head, begin, 2) + all.rules[3] * longOf(p, all.rules[7]);
        while (all.pieces.size() > k) all.pieces.remove(k);
        all.pieces.add(p);
        all.head = endOf(p);
        all.ticks += t;
        return t;
    }

    int spoil(int b, int i, int track) {
        Piece p = piece(b);
        if (p == null || i < 0 || i >= p.bits.length || track < 0 || track > 8) return BAD;
        p.bits[i][track] ^= true;
        return number(p.bits[i]);
    }

    int dead(int track) {
        if (track != NONE && (track < 0 || track > 8)) return BAD;
        int was = all.dead;
        all.dead = track;
        return was;
    }

    // ---- what is read

    private static List<Integer> wrongAlong(Piece p) {
        List<Integer> wrong = new ArrayList<>();
        for (int i = 0; i < p.bytes.size(); i++) {
            if (Integer.bitCount(number(p.bits[i])) % 2 == 0) wrong.add(i);
        }
        return wrong;
    }

    private static List<Integer> wrongAcross(Piece p) {
        List<Integer> wrong = new ArrayList<>();
        for (int t = 0; t < 9; t++) {
            int ones = 0;
            for (boolean[] column : p.bits) ones += column[t] ? 1 : 0;
            if (ones % 2 == 1) wrong.add(t);
        }
        return wrong;
    }

    /** READ: the piece as mended comes into mended (of one element). */
    private static int reading(Piece p, int dead, Piece[] mended) {
        List<Integer> along = wrongAlong(p);
        List<Integer> across = wrongAcross(p);
        Piece m = p.copy();
        mended[0] = m;
        if (along.isEmpty() && across.isEmpty()) return 0;
        if (dead != NONE) {
            for (int i : along) m.bits[i][dead] ^= true;
            return wrongAcross(m).isEmpty() ? 2 : 3;
        }
        if (across.size() != 1 || along.size() > 1) return 3;
        for (int i : along) m.bits[i][across.get(0)] ^= true;
        return 1;
    }

    int check(int b) {
        Piece p = piece(b);
        return p == null ? BAD : reading(p, all.dead, new Piece[1]);
    }

    int got(int b, int i) {
        Piece p = piece(b);
        if (p == null || i < 0 || i >= p.bytes.size()) return BAD;
        Piece[] mended = new Piece[1];
        if (reading(p, all.dead, mended) == 3) return NONE;
        return number(mended[0].bits[i]) % 256;
    }

    int column(int b, int i) {
        Piece p = piece(b);
        return p == null || i < 0 || i >= p.bits.length ? BAD : number(p.bits[i]);
    }

    int state(int what) {
        if (what < 0 || what > 2) return BAD;
        int bits = 0;
        for (int b = 0; b < all.pieces.size(); b++) {
            int how = check(b);
            boolean fooled = false;
            for (int i = 0; i < all.pieces.get(b).bytes.size(); i++) {
                fooled |= how != 3 && got(b, i) != all.pieces.get(b).bytes.get(i);
            }
            boolean counts = what == 0 ? how == 3 : what == 1 ? fooled : how == 1 || how == 2;
            if (counts) bits += 1 << b;
        }
        return bits;
    }

    int best(int what) {
        if (what < 0 || what > 1) return BAD;
        int was = all.dead;
        int track = 0;
        int least = 99;
        for (int t = 8; t >= 0; t--) {
            all.dead = t;
            int lost = Integer.bitCount(state(0));
            if (lost <= least) {
                least = lost;
                track = t;
            }
        }
        all.dead = was;
        return what == 0 ? track : least;
    }

    private List<Integer> bestOrder;
    private int bestTicks;

    private void tryOrders(List<Integer> done, List<Integer> open, int place, int ticks) {
        if (open.isEmpty() && ticks < bestTicks) {
            bestTicks = ticks;
            bestOrder = new ArrayList<>(done);
        }
        for (int j = 0; j < open.size(); j++) {
            int b = open.get(j);
            Piece p = all.pieces.get(b);
            List<Integer> rest = new ArrayList<>(open);
            rest.remove(j);
            done.add(b);
            int more = ticks(place, p.begin, 2) + all.rules[3] * (endOf(p) - p.begin);
            tryOrders(done, rest, endOf(p), ticks + more);
            done.remove(done.size() - 1);
        }
    }

    private List<Integer> chosen(int some) {
        List<Integer> list = new ArrayList<>();
        for (int b = 0; b < 32; b++) {
            if ((some >> b & 1) == 0) continue;
            if (piece(b) == null) return null;
            list.add(b);
        }
        return list;
    }

    int order(int some, int what) {
        List<Integer> list = chosen(some);
        if (list == null) return BAD;
        if (what != 0 && (what < 10 || what > 17 || what - 10 >= list.size())) return BAD;
        if (list.size() > 8) return STATE;
        bestTicks = Integer.MAX_VALUE;
        tryOrders(new ArrayList<>(), list, all.head, 0);
        return what == 0 ? bestTicks : bestOrder.get(what - 10);
    }

    int reads(int some) {
        int t = order(some, 0);
        if (t < 0 || some == 0) return t;
        all.ticks += t;
        all.head = endOf(all.pieces.get(bestOrder.get(bestOrder.size() - 1)));
        return t;
    }

    // ---- tape

    int cut(int x, int y) {
        if (!isPlace(x) || !isPlace(y) || y <= x) return BAD;
        int less = y - x;
        if (all.rules[0] - less < 20) return STATE;
        int were = all.pieces.size();
        List<Piece> stay = new ArrayList<>();
        for (Piece p : all.pieces) {
            boolean hit = false;
            for (int place = p.begin; place < endOf(p); place++) hit |= place >= x && place < y;
            if (hit) continue;
            if (p.begin >= y) p.begin -= less;
            stay.add(p);
        }
        all.pieces = stay;
        all.rules[0] -= less;
        if (all.head >= x && all.head < y) all.head = x;
        else if (all.head >= y) all.head -= less;
        return were - stay.size();
    }

    int holds(int n) {
        if (n < 1 || n > 99) return BAD;
        int length = 0;
        while (length * all.rules[7] < n + 1) length++;
        int blocks = 0;
        int place = 0;
        while (place + all.rules[6] + length <= all.rules[0]) {
            place += all.rules[6] + length;
            blocks++;
        }
        return blocks;
    }

    int most(int what) {
        if (what < 0 || what > 1) return BAD;
        int best = 99;
        for (int n = 98; n > 0; n--) {
            if (n * holds(n) >= best * holds(best)) best = n;
        }
        return what == 0 ? best : best * holds(best);
    }

    int stream(int n, int l, int every, int buffer, int what) {
        if (n < 1 || n > 99 || l < 1 || l > 99 || every < 0 || every > 9999) return BAD;
        if (buffer < 1 || buffer > 99 || what < 0 || what > 1) return BAD;
        int time = 0;
        int stops = 0;
        int written = 0;
        while (true) {
            while (readyAt(time, n, every) - written < Math.min(buffer, n - written)) time++;
            while (written < n && readyAt(time, n, every) > written) {
                for (int place = 0; place < l + all.rules[6]; place++) time += all.rules[3];
                written++;
            }
            if (written == n) return what == 0 ? time : stops;
            stops++;
            time += all.rules[8];
        }
    }

    private static int readyAt(int time, int n, int every) {
        return every == 0 ? n : Math.min(n, time / every + 1);
    }

    int buffer(int n, int l, int every, int what) {
        if (stream(n, l, every, 1, what) == BAD) return BAD;
        int best = n;
        for (int room = n; room > 0; room--) {
            if (stream(n, l, every, room, 0) <= stream(n, l, every, best, 0)) best = room;
        }
        return what == 0 ? best : stream(n, l, every, best, 0);
    }

    // ---- what it can be

    int saw(int c, int x) {
        if (c < 0 || c > 999 || x < 0 || x > 9999) return BAD;
        if (all.seen.size() == 12) return FULL;
        all.seen.add(new int[] {c, x});
        return all.seen.size();
    }

    int forget() {
        int were = all.seen.size();
        all.seen.clear();
        return were;
    }

    int fits(int what) {
        if (what < 0 || what > 2) return BAD;
        List<int[]> pairs = new ArrayList<>();
        for (int hub = 5; hub <= 99; hub++) {
            for (int thick = 1; thick <= 9; thick++) {
                boolean so = true;
                for (int[] s : all.seen) so &= wind(s[1], hub, thick) == s[0];
                if (so) pairs.add(new int[] {pairs.size(), hub, thick});
            }
        }
        if (what == 0) return pairs.size();
        return pairs.isEmpty() ? NONE : pairs.get(0)[what];
    }

    // ---- images, sheets

    int keep(int i) {
        if (i < 0 || i > 1) return BAD;
        int was = images[i] == null ? 0 : 1;
        images[i] = all.copy();
        return was;
    }

    int back(int i) {
        if (i < 0 || i > 1) return BAD;
        if (images[i] == null) return STATE;
        all = images[i].copy();
        return all.pieces.size();
    }

    int sheet(int k, int lane, int n) {
        if (k < 0 || k > 3 || lane < 0 || lane > 2 || n > 40) return BAD;
        try {
            sheets[k] = lane == 0 ? new byte[n] : lane == 1 ? new short[n] : (Object) new int[n];
            return 1;
        } catch (NegativeArraySizeException e) {
            return -14;
        }
    }

    int lay(int k, int i, int v) {
        if (k < 0 || k > 3) return BAD;
        try {
            if (sheets[k] instanceof byte[]) ((byte[]) sheets[k])[i] = (byte) v;
            else if (sheets[k] instanceof short[]) ((short[]) sheets[k])[i] = (short) v;
            else ((int[]) sheets[k])[i] = v;
            return 1;
        } catch (NullPointerException e) {
            return -11;
        } catch (IndexOutOfBoundsException e) {
            return -12;
        }
    }

    /** Here the machine itself finds the FAULT. */
    int read(int k, int lane, int f, int n) {
        if (k < 0 || k > 3 || lane < 0 || lane > 2 || n < 0 || n > 12) return BAD;
        List<Integer> were = new ArrayList<>(all.typed);
        int taken = 0;
        int found = 0;
        try {
            while (taken < n) {
                Object s = sheets[k];
                int i = f + taken;
                int v = lane == 0 ? ((byte[]) s)[i] : lane == 1 ? ((short[]) s)[i] : ((int[]) s)[i];
                if (v < 0 || v > 255 || all.typed.size() == 12) {
                    all.typed = were;
                    return v < 0 || v > 255 ? -20 - taken : FULL;
                }
                all.typed.add(v);
                taken++;
            }
        } catch (NullPointerException e) {
            found = 1;
        } catch (IndexOutOfBoundsException e) {
            found = 2;
        } catch (ClassCastException e) {
            found = 3;
        }
        readFault = found;
        return taken;
    }

    int torn() {
        return readFault;
    }

    int count(int what) {
        if (what < 0 || what > 6) return BAD;
        int marks = 0;
        int bytes = 0;
        for (Piece p : all.pieces) {
            marks += p.bytes.isEmpty() ? 1 : 0;
            bytes += p.bytes.size();
        }
        int kept = (images[0] == null ? 0 : 1) + (images[1] == null ? 0 : 1);
        int cells = sheets[0] == null ? NONE : java.lang.reflect.Array.getLength(sheets[0]);
        return new int[] {all.pieces.size(), marks, bytes, all.seen.size(), kept, letters.length(), cells}[what];
    }
}
