/** Long tape on two reels, as ../shared/DOC.md tells: every public call is one of its promises. */
public final class TwoReels {
    public static final int BAD = -1, STATE = -2, FULL = -3, NONE = -4;

    private static final int LETTERS_MOST = 400, BLOCKS_MOST = 12, BYTES_MOST = 12, SEEN_MOST = 12;
    private static final int TRACKS = 9, ORDER_MOST = 8, LENGTH_LEAST = 20;
    private static final int SHEETS = 4, LANES = 3, CELLS_MOST = 40, IMAGES = 2;

    private static final int LENGTH = 0, HUB = 1, THICK = 2, PLAY = 3, WIND = 4, RAMP = 5, GAP = 6, DENSE = 7;
    private static final int HITCH = 8, RULES = 9;
    private static final int[] RULE_LEAST = {20, 5, 1, 1, 1, 0, 0, 1, 0};
    private static final int[] RULE_MOST = {9999, 99, 9, 99, 99, 99, 99, 9, 999};
    private static final int[] RULE_FIRST = {1000, 20, 2, 10, 5, 3, 6, 2, 20};

    private static final int RIGHT = 0, MENDED = 1, MENDED_BY_TRACK = 2, LOST = 3;

    private static final int NO_FAULT = 0, FAULT_NULL = 1, FAULT_INDEX = 2, FAULT_CAST = 3, FAULT_SIZE = 4;

    private final Tape tape = new Tape();
    private final TextReader textReader = new TextReader();
    private final Route route = new Route();
    private final Tape imageZero = new Tape();
    private final Tape imageOne = new Tape();
    private final Sheet sheetZero = new Sheet();
    private final Sheet sheetOne = new Sheet();
    private final Sheet sheetTwo = new Sheet();
    private final Sheet sheetThree = new Sheet();
    private int textFault = NO_FAULT;
    private int readFault = NO_FAULT;
    private int imagesKept = 0;

    public TwoReels() {
    }

    // ---- the text

    public int feed(long v) {
        if (textReader.letterCount + 8 > LETTERS_MOST) return FULL;
        for (int shift = 56; shift >= 0; shift -= 8) textReader.addLetter((byte) (v >>> shift));
        return textReader.letterCount;
    }

    public int end(int n) {
        int before = textReader.letterCount;
        if (!isBetween(n, 0, before)) return BAD;
        textReader.letterCount = n;
        return before;
    }

    public int text() {
        int lines = textReader.takeAll();
        textReader.letterCount = 0;
        textFault = textReader.faultCode;
        if (textFault != NO_FAULT) return -10 - textReader.faultPlace;
        tape.becomes(textReader.draft);
        imagesKept = 0;
        return lines;
    }

    public int fault() {
        return textFault;
    }

    public int rule(int what) {
        return isBetween(what, 0, RULES - 1) ? tape.ruled(what) : BAD;
    }

    // ---- reels, ticks

    public int turns(int x, boolean left) {
        if (!tape.hasPlace(x)) return BAD;
        return left ? tape.leftTurns(x) : tape.rightTurns(x);
    }

    public int shows(int c, int what) {
        if (c < 0 || !isBetween(what, 0, 1)) return BAD;
        return what == 0 ? tape.firstShowing(c) : tape.lastShowing(c);
    }

    public int meet() {
        return tape.meetingPlace();
    }

    public int ticks(int x, int y, int what) {
        if (!tape.hasPlace(x) || !tape.hasPlace(y)) return BAD;
        switch (what) {
            case 0: return tape.played(x, y);
            case 1: return tape.wound(x, y);
            case 2: return tape.sooner(x, y);
            default: return BAD;
        }
    }

    public int go(int x) {
        return tape.hasPlace(x) ? tape.goTo(x) : BAD;
    }

    public int now(int what) {
        switch (what) {
            case 0: return tape.head;
            case 1: return tape.ticksSoFar;
            case 2: return tape.rightTurns(tape.head);
            case 3: return tape.deadTrack;
            case 4: return tape.typedCount;
            case 5: return tape.ruled(LENGTH) - tape.endOf(tape.blockCount - 1);
            default: return BAD;
        }
    }

    public int within(int y, boolean back) {
        if (!isBetween(y, 0, 999999)) return BAD;
        return tape.head + (back ? -tape.reach(y, tape.head, -1) : tape.reach(y, tape.ruled(LENGTH) - tape.head, 1));
    }

    // ---- blocks

    public int block(int b, int what) {
        if (!tape.hasBlock(b)) return BAD;
        switch (what) {
            case 0: return tape.beginOf(b);
            case 1: return tape.longOf(b);
            case 2: return tape.sizeOf(b);
            case 3: return tape.isMark(b) ? 0 : tape.columnOf(b, tape.sizeOf(b));
            case 4: return tape.endOf(b);
            default: return BAD;
        }
    }

    public int blockAt(int x) {
        return tape.hasPlace(x) ? tape.blockWith(x) : BAD;
    }

    public int type(int v) {
        if (!isBetween(v, 0, 255)) return BAD;
        if (tape.typedCount >= BYTES_MOST) return FULL;
        return tape.typeOne(v);
    }

    public int write(int k) {
        if (!isBetween(k, 0, tape.blockCount)) return BAD;
        if (tape.typedCount == 0) return STATE;
        if (!tape.hasRoomAt(k, tape.typedCount)) return FULL;
        int took = tape.writeAt(k, tape.typedCount);
        tape.typedCount = 0;
        return took;
    }

    public int mark(int k) {
        if (!isBetween(k, 0, tape.blockCount)) return BAD;
        if (!tape.hasRoomAt(k, 0)) return FULL;
        return tape.writeAt(k, 0);
    }

    public int spoil(int b, int i, int track) {
        if (!tape.hasColumn(b, i) || !isBetween(track, 0, TRACKS - 1)) return BAD;
        return tape.turnBit(b, i, track);
    }

    public int dead(int track) {
        if (track != NONE && !isBetween(track, 0, TRACKS - 1)) return BAD;
        int before = tape.deadTrack;
        tape.deadTrack = track;
        return before;
    }

    // ---- what is read

    public int check(int b) {
        return tape.hasBlock(b) ? tape.readingOf(b, tape.deadTrack) : BAD;
    }

    public int got(int b, int i) {
        if (!tape.hasBlock(b) || !isBetween(i, 0, tape.sizeOf(b) - 1)) return BAD;
        if (tape.readingOf(b, tape.deadTrack) == LOST) return NONE;
        return tape.byteAsRead(b, i);
    }

    public int column(int b, int i) {
        return tape.hasColumn(b, i) ? tape.columnOf(b, i) : BAD;
    }

    public int state(int what) {
        switch (what) {
            case 0: return tape.lostBlocksBy(tape.deadTrack);
            case 1: return tape.fooledBlocks();
            case 2: return tape.mendedBlocks();
            default: return BAD;
        }
    }

    public int best(int what) {
        if (!isBetween(what, 0, 1)) return BAD;
        int bestTrack = 0;
        int fewest = Integer.bitCount(tape.lostBlocksBy(0));
        for (int track = 1; track < TRACKS; track++) {
            int lost = Integer.bitCount(tape.lostBlocksBy(track));
            if (lost < fewest) {
                fewest = lost;
                bestTrack = track;
            }
        }
        return what == 0 ? bestTrack : fewest;
    }

    public int order(int some, int what) {
        if (!tape.hasAllOf(some)) return BAD;
        int i = what - 10;
        boolean wantsTicks = what == 0;
        if (!wantsTicks && (!isBetween(i, 0, ORDER_MOST - 1) || i >= Integer.bitCount(some))) return BAD;
        if (Integer.bitCount(some) > ORDER_MOST) return STATE;
        route.plan(tape, some);
        return wantsTicks ? route.ticksInAll : route.stopAt(i);
    }

    public int reads(int some) {
        if (!tape.hasAllOf(some)) return BAD;
        if (Integer.bitCount(some) > ORDER_MOST) return STATE;
        if (some == 0) return 0;
        route.plan(tape, some);
        tape.ticksSoFar += route.ticksInAll;
        tape.head = tape.endOf(route.stopAt(route.count - 1));
        return route.ticksInAll;
    }

    // ---- tape

    public int cut(int x, int y) {
        if (!tape.hasPlace(x) || !tape.hasPlace(y) || y <= x) return BAD;
        if (tape.ruled(LENGTH) - (y - x) < LENGTH_LEAST) return STATE;
        return tape.cutOut(x, y);
    }

    public int holds(int n) {
        return isBetween(n, 1, 99) ? tape.roomFor(n) : BAD;
    }

    public int most(int what) {
        if (!isBetween(what, 0, 1)) return BAD;
        int bestSize = 1;
        int mostBytes = tape.roomFor(1);
        for (int n = 2; n <= 99; n++) {
            int bytes = n * tape.roomFor(n);
            if (bytes > mostBytes) {
                mostBytes = bytes;
                bestSize = n;
            }
        }
        return what == 0 ? bestSize : mostBytes;
    }

    public int stream(int n, int l, int every, int buffer, int what) {
        if (!isStream(n, l, every) || !isBetween(buffer, 1, 99) || !isBetween(what, 0, 1)) return BAD;
        return tape.streamed(n, l, every, buffer, what == 1);
    }

    public int buffer(int n, int l, int every, int what) {
        if (!isStream(n, l, every) || !isBetween(what, 0, 1)) return BAD;
        int bestRoom = 1;
        int fewest = tape.streamed(n, l, every, 1, false);
        for (int room = 2; room <= n; room++) {
            int took = tape.streamed(n, l, every, room, false);
            if (took < fewest) {
                fewest = took;
                bestRoom = room;
            }
        }
        return what == 0 ? bestRoom : fewest;
    }

    // ---- what it can be

    public int saw(int c, int x) {
        if (!isBetween(c, 0, 999) || !isBetween(x, 0, 9999)) return BAD;
        if (tape.seenCount >= SEEN_MOST) return FULL;
        return tape.addSeen(c, x);
    }

    public int forget() {
        int before = tape.seenCount;
        tape.seenCount = 0;
        return before;
    }

    public int fits(int what) {
        if (!isBetween(what, 0, 2)) return BAD;
        int pairs = 0;
        for (int hub = cell(RULE_LEAST, HUB); hub <= cell(RULE_MOST, HUB); hub++) {
            for (int thick = cell(RULE_LEAST, THICK); thick <= cell(RULE_MOST, THICK); thick++) {
                if (!tape.canBe(hub, thick)) continue;
                if (what == 1) return hub;
                if (what == 2) return thick;
                pairs++;
            }
        }
        return what == 0 ? pairs : NONE;
    }

    // ---- images, sheets

    public int keep(int i) {
        if (!isBetween(i, 0, IMAGES - 1)) return BAD;
        int before = imagesKept >> i & 1;
        imageNumbered(i).becomes(tape);
        imagesKept |= 1 << i;
        return before;
    }

    public int back(int i) {
        if (!isBetween(i, 0, IMAGES - 1)) return BAD;
        if ((imagesKept >> i & 1) == 0) return STATE;
        tape.becomes(imageNumbered(i));
        return tape.blockCount;
    }

    public int sheet(int k, int lane, int n) {
        if (!isBetween(k, 0, SHEETS - 1) || !isBetween(lane, 0, LANES - 1) || n > CELLS_MOST) return BAD;
        if (n < 0) return -10 - FAULT_SIZE;
        sheetNumbered(k).makeNew(lane, n);
        return 1;
    }

    public int lay(int k, int i, int v) {
        if (!isBetween(k, 0, SHEETS - 1)) return BAD;
        Sheet target = sheetNumbered(k);
        int refusal = target.faultOf(target.laneNow, i);
        if (refusal != NO_FAULT) return -10 - refusal;
        target.put(i, v);
        return 1;
    }

    public int read(int k, int lane, int f, int n) {
        if (!isBetween(k, 0, SHEETS - 1) || !isBetween(lane, 0, LANES - 1) || !isBetween(n, 0, BYTES_MOST)) return BAD;
        Sheet source = sheetNumbered(k);
        int typedBefore = tape.typedCount;
        for (int taken = 0; taken < n; taken++) {
            int refusal = source.faultOf(lane, f + taken);
            if (refusal != NO_FAULT) {
                readFault = refusal;
                return taken;
            }
            int v = source.cellAt(f + taken);
            boolean isByte = isBetween(v, 0, 255);
            if (!isByte || tape.typedCount >= BYTES_MOST) {
                tape.typedCount = typedBefore;
                return isByte ? FULL : -20 - taken;
            }
            tape.typeOne(v);
        }
        readFault = NO_FAULT;
        return n;
    }

    public int torn() {
        return readFault;
    }

    public int count(int what) {
        switch (what) {
            case 0: return tape.blockCount;
            case 1: return tape.markCount();
            case 2: return tape.byteCount();
            case 3: return tape.seenCount;
            case 4: return Integer.bitCount(imagesKept);
            case 5: return textReader.letterCount;
            case 6: return sheetZero.isNothing() ? NONE : sheetZero.cellCount;
            default: return BAD;
        }
    }

    // ---- helpers of the calls

    private Tape imageNumbered(int i) {
        return i == 0 ? imageZero : imageOne;
    }

    private Sheet sheetNumbered(int k) {
        switch (k) {
            case 0: return sheetZero;
            case 1: return sheetOne;
            case 2: return sheetTwo;
            default: return sheetThree;
        }
    }

    private static boolean isStream(int n, int l, int every) {
        return isBetween(n, 1, 99) && isBetween(l, 1, 99) && isBetween(every, 0, 9999);
    }

    private static boolean isBetween(int v, int least, int most) {
        return v >= least && v <= most;
    }

    private static int dividedUp(int v, int by) {
        return by < 1 ? 0 : (v + by - 1) / by;
    }

    /** What a reel has to hold for so many TURNS: no TURN count here is above 10000, so an int has room. */
    private static int lengthOfTurns(int turnCount, int hub, int thick) {
        return turnCount * hub + thick * (turnCount * (turnCount - 1) / 2);
    }

    // The rows of this class are touched by these alone: an index beyond a row is never used.

    private static int cell(int[] row, int i) {
        return row != null && i >= 0 && i < row.length ? row[i] : 0;
    }

    private static void setCell(int[] row, int i, int v) {
        if (row != null && i >= 0 && i < row.length) row[i] = v;
    }

    private static void copyRow(int[] from, int[] to) {
        if (from != null && to != null) System.arraycopy(from, 0, to, 0, Math.min(from.length, to.length));
    }

    /** All that an IMAGE keeps, and the RULES: the tape itself, its BLOCKS, THE HEAD, what is typed and SEEN. */
    private static final class Tape {
        private static final int COLUMNS_MOST = BYTES_MOST + 1;

        final int[] rules = new int[RULES];
        final int[] begins = new int[BLOCKS_MOST];
        final int[] sizes = new int[BLOCKS_MOST];
        // BLOCK b has its COLUMNS from b * COLUMNS_MOST on, THE ROW behind its BYTES.
        final int[] columns = new int[BLOCKS_MOST * COLUMNS_MOST];
        // The BYTES as they were written: what is read can be FOOLED.
        final int[] originals = new int[BLOCKS_MOST * BYTES_MOST];
        final int[] typed = new int[BYTES_MOST];
        final int[] seenCounters = new int[SEEN_MOST];
        final int[] seenPlaces = new int[SEEN_MOST];
        int blockCount;
        int head;
        int ticksSoFar;
        int typedCount;
        int deadTrack;
        int seenCount;

        Tape() {
            reset();
        }

        void reset() {
            copyRow(RULE_FIRST, rules);
            blockCount = 0;
            head = 0;
            ticksSoFar = 0;
            typedCount = 0;
            deadTrack = NONE;
            seenCount = 0;
        }

        void becomes(Tape other) {
            if (other == null) return;
            copyRow(other.rules, rules);
            copyRow(other.begins, begins);
            copyRow(other.sizes, sizes);
            copyRow(other.columns, columns);
            copyRow(other.originals, originals);
            copyRow(other.typed, typed);
            copyRow(other.seenCounters, seenCounters);
            copyRow(other.seenPlaces, seenPlaces);
            blockCount = other.blockCount;
            head = other.head;
            ticksSoFar = other.ticksSoFar;
            typedCount = other.typedCount;
            deadTrack = other.deadTrack;
            seenCount = other.seenCount;
        }

        int ruled(int r) {
            return r >= 0 && r < rules.length ? rules[r] : 0;
        }

        boolean hasPlace(int x) {
            return isBetween(x, 0, ruled(LENGTH));
        }

        // -- reels

        /** Built from halving steps: 2047 TURNS are above what the thinnest reel can have of 9999 PLACES. */
        private int turnsOf(int amount) {
            int hub = ruled(HUB);
            int thick = ruled(THICK);
            int turnCount = 0;
            for (int step = 1024; step > 0; step /= 2) {
                if (lengthOfTurns(turnCount + step, hub, thick) <= amount) turnCount += step;
            }
            return turnCount;
        }

        int rightTurns(int x) {
            return turnsOf(x);
        }

        int leftTurns(int x) {
            return turnsOf(ruled(LENGTH) - x);
        }

        int firstShowing(int c) {
            // Ahead of the reckoning: it has no room for a counter far above every length.
            if (c > ruled(LENGTH)) return NONE;
            int first = lengthOfTurns(c, ruled(HUB), ruled(THICK));
            return hasPlace(first) ? first : NONE;
        }

        int lastShowing(int c) {
            if (firstShowing(c) == NONE) return NONE;
            return Math.min(ruled(LENGTH), lengthOfTurns(c + 1, ruled(HUB), ruled(THICK)) - 1);
        }

        int meetingPlace() {
            int low = 0;
            int high = ruled(LENGTH);
            for (int step = 0; step < 32 && low < high; step++) {
                int middle = (low + high) / 2;
                if (rightTurns(middle) >= leftTurns(middle)) high = middle;
                else low = middle + 1;
            }
            return low;
        }

        // -- TICKS

        int playedThrough(int places) {
            return ruled(PLAY) * places;
        }

        int played(int x, int y) {
            return x == y ? 0 : ruled(RAMP) + playedThrough(Math.abs(y - x));
        }

        int wound(int x, int y) {
            if (x == y) return 0;
            int length = ruled(LENGTH);
            int more = y > x ? turnsOf(y) - turnsOf(x) : turnsOf(length - y) - turnsOf(length - x);
            return 2 * ruled(RAMP) + ruled(WIND) * more;
        }

        int sooner(int x, int y) {
            return Math.min(played(x, y), wound(x, y));
        }

        int goTo(int x) {
            int took = sooner(head, x);
            head = x;
            ticksSoFar += took;
            return took;
        }

        /** How many PLACES (of so many) THE HEAD comes in y TICKS: SOONER never falls as the way grows. */
        int reach(int y, int most, int direction) {
            int low = 0;
            int high = most;
            for (int step = 0; step < 32 && low < high; step++) {
                int middle = (low + high + 1) / 2;
                if (sooner(head, head + direction * middle) <= y) low = middle;
                else high = middle - 1;
            }
            return low;
        }

        // -- BLOCKS

        boolean hasBlock(int b) {
            return isBetween(b, 0, blockCount - 1);
        }

        boolean hasAllOf(int some) {
            return some >>> blockCount == 0;
        }

        int beginOf(int b) {
            return cell(begins, b);
        }

        int sizeOf(int b) {
            return cell(sizes, b);
        }

        boolean isMark(int b) {
            return sizeOf(b) == 0;
        }

        private int longWith(int size) {
            return size == 0 ? 1 : dividedUp(size + 1, ruled(DENSE));
        }

        int longOf(int b) {
            return longWith(sizeOf(b));
        }

        /** Behind BLOCK b; ahead of all BLOCKS (b -1) the start of the tape. */
        int endOf(int b) {
            return hasBlock(b) ? beginOf(b) + longWith(sizeOf(b)) : 0;
        }

        int blockWith(int x) {
            for (int b = 0; b < blockCount; b++) {
                if (isBetween(x, beginOf(b), endOf(b) - 1)) return b;
            }
            return NONE;
        }

        int markCount() {
            int marks = 0;
            for (int b = 0; b < blockCount; b++) {
                if (isMark(b)) marks++;
            }
            return marks;
        }

        int byteCount() {
            int bytes = 0;
            for (int b = 0; b < blockCount; b++) bytes += sizeOf(b);
            return bytes;
        }

        int typeOne(int v) {
            setCell(typed, typedCount, v);
            typedCount++;
            return typedCount;
        }

        private int beginningAt(int k) {
            return endOf(k - 1) + ruled(GAP);
        }

        boolean hasRoomAt(int k, int size) {
            return k < BLOCKS_MOST && beginningAt(k) + longWith(size) <= ruled(LENGTH);
        }

        int writeAt(int k, int size) {
            int begin = beginningAt(k);
            int took = sooner(head, begin) + playedThrough(longWith(size));
            putBlock(k, begin, size);
            head = endOf(k);
            ticksSoFar += took;
            return took;
        }

        /** What is typed becomes BLOCK k, the last one; of size 0 a MARK. */
        void putBlock(int k, int begin, int size) {
            blockCount = k + 1;
            setCell(begins, k, begin);
            setCell(sizes, k, size);
            int row = 0;
            for (int i = 0; i < size; i++) {
                int v = cell(typed, i);
                int withOddOnes = v | (Integer.bitCount(v) % 2 == 0 ? 256 : 0);
                setCell(originals, k * BYTES_MOST + i, v);
                setColumn(k, i, withOddOnes);
                row ^= withOddOnes;
            }
            setColumn(k, size, row);
        }

        /** A text can tell its RULES behind its BLOCKS: where these begin is known at its end alone. */
        void layOutBlocks() {
            for (int b = 0; b < blockCount; b++) setCell(begins, b, beginningAt(b));
        }

        int cutOut(int x, int y) {
            int kept = 0;
            int before = blockCount;
            for (int b = 0; b < before; b++) {
                boolean isBehind = beginOf(b) >= y;
                if (!isBehind && endOf(b) > x) continue;
                moveBlock(b, kept, isBehind ? y - x : 0);
                kept++;
            }
            blockCount = kept;
            setCell(rules, LENGTH, ruled(LENGTH) - (y - x));
            if (head >= y) head -= y - x;
            else if (head > x) head = x;
            return before - kept;
        }

        private void moveBlock(int from, int to, int nearer) {
            setCell(begins, to, beginOf(from) - nearer);
            setCell(sizes, to, sizeOf(from));
            for (int i = 0; i < COLUMNS_MOST; i++) setColumn(to, i, columnOf(from, i));
            for (int i = 0; i < BYTES_MOST; i++) setCell(originals, to * BYTES_MOST + i, originalOf(from, i));
        }

        // -- COLUMNS, READ

        /** A MARK has no BYTES and no ROW, so no COLUMNS. */
        boolean hasColumn(int b, int i) {
            return hasBlock(b) && !isMark(b) && isBetween(i, 0, sizeOf(b));
        }

        int columnOf(int b, int i) {
            return cell(columns, b * COLUMNS_MOST + i);
        }

        private void setColumn(int b, int i, int v) {
            setCell(columns, b * COLUMNS_MOST + i, v);
        }

        int turnBit(int b, int i, int track) {
            setColumn(b, i, columnOf(b, i) ^ 1 << track);
            return columnOf(b, i);
        }

        private int originalOf(int b, int i) {
            return cell(originals, b * BYTES_MOST + i);
        }

        private boolean isWrongAlong(int b, int i) {
            return Integer.bitCount(columnOf(b, i)) % 2 == 0;
        }

        private int wrongAlongCount(int b) {
            int wrong = 0;
            for (int i = 0; i < sizeOf(b); i++) {
                if (isWrongAlong(b, i)) wrong++;
            }
            return wrong;
        }

        /** The tracks that are wrong ACROSS, as bits. */
        private int wrongAcross(int b) {
            int size = sizeOf(b);
            int wrong = 0;
            for (int i = 0; size > 0 && i <= size; i++) wrong ^= columnOf(b, i);
            return wrong;
        }

        int readingOf(int b, int track) {
            int along = wrongAlongCount(b);
            int across = wrongAcross(b);
            if (along == 0 && across == 0) return RIGHT;
            if (track != NONE) {
                int acrossThen = along % 2 == 0 ? across : across ^ 1 << track;
                return acrossThen == 0 ? MENDED_BY_TRACK : LOST;
            }
            return along <= 1 && Integer.bitCount(across) == 1 ? MENDED : LOST;
        }

        /** BYTE i of a BLOCK that is not LOST. */
        int byteAsRead(int b, int i) {
            int as = columnOf(b, i);
            if (isWrongAlong(b, i)) as ^= deadTrack == NONE ? wrongAcross(b) : 1 << deadTrack;
            return as & 255;
        }

        private boolean isReadAsWritten(int b) {
            for (int i = 0; i < sizeOf(b); i++) {
                if (byteAsRead(b, i) != originalOf(b, i)) return false;
            }
            return true;
        }

        /** The BLOCKS that are LOST with a track DEAD (NONE: with none). */
        int lostBlocksBy(int track) {
            int bits = 0;
            for (int b = 0; b < blockCount; b++) {
                if (readingOf(b, track) == LOST) bits |= 1 << b;
            }
            return bits;
        }

        int fooledBlocks() {
            int bits = 0;
            for (int b = 0; b < blockCount; b++) {
                if (readingOf(b, deadTrack) != LOST && !isReadAsWritten(b)) bits |= 1 << b;
            }
            return bits;
        }

        int mendedBlocks() {
            int bits = 0;
            for (int b = 0; b < blockCount; b++) {
                int reading = readingOf(b, deadTrack);
                if (reading == MENDED || reading == MENDED_BY_TRACK) bits |= 1 << b;
            }
            return bits;
        }

        // -- how much fits, A STREAM

        int roomFor(int size) {
            int each = ruled(GAP) + longWith(size);
            return each < 1 ? 0 : ruled(LENGTH) / each;
        }

        /** TICKS that A STREAM takes, or how often it STOPS. */
        int streamed(int n, int l, int every, int room, boolean wantsStops) {
            int each = playedThrough(l + ruled(GAP));
            int stops = 0;
            int time = timeWhenFilled(0, 0, n, every, room);
            for (int i = 0; i < n; i++) {
                if (i * every > time) {
                    stops++;
                    time = timeWhenFilled(time + ruled(HITCH), i, n, every, room);
                }
                time += each;
            }
            return wantsStops ? stops : time;
        }

        /** The deck waits from a time on, BLOCK next to be written, for a full buffer or all that are left. */
        private static int timeWhenFilled(int time, int next, int n, int every, int room) {
            int lastWanted = Math.min(next + room, n) - 1;
            return Math.max(time, lastWanted * every);
        }

        // -- SEEN

        int addSeen(int c, int x) {
            setCell(seenCounters, seenCount, c);
            setCell(seenPlaces, seenCount, x);
            seenCount++;
            return seenCount;
        }

        boolean canBe(int hub, int thick) {
            for (int i = 0; i < seenCount; i++) {
                int c = cell(seenCounters, i);
                int x = cell(seenPlaces, i);
                if (x < lengthOfTurns(c, hub, thick) || x >= lengthOfTurns(c + 1, hub, thick)) return false;
            }
            return true;
        }
    }

    /** AN ORDER of some BLOCKS: the fewest TICKS for every rest of them, then the first ORDER that takes these. */
    private static final class Route {
        // Above what ORDER_MOST ways from one end of the longest tape to the other take at the slowest.
        private static final int MORE_THAN_ANY = 1 << 30;

        // hops: TICKS from a place (the end of a stop; behind all stops THE HEAD) to and through a stop.
        private final int[] hops = new int[(ORDER_MOST + 1) * ORDER_MOST];
        // fewest: TICKS still to come, by the stops that are left (bits) and the stop where one is.
        private final int[] fewest = new int[(1 << ORDER_MOST) * ORDER_MOST];
        private final int[] chosen = new int[ORDER_MOST];
        private final int[] stops = new int[ORDER_MOST];
        int count;
        int ticksInAll;

        void plan(Tape tape, int some) {
            if (tape == null) return;
            choose(some);
            measureHops(tape);
            for (int left = 0; left < 1 << count; left++) {
                for (int from = 0; from < count; from++) {
                    setCell(fewest, left * ORDER_MOST + from, left == 0 ? 0 : fewestFrom(from, left));
                }
            }
            followFirst();
        }

        int stopAt(int i) {
            return cell(stops, i);
        }

        private void choose(int some) {
            count = 0;
            for (int b = 0; b < BLOCKS_MOST; b++) {
                if ((some >> b & 1) == 1 && count < ORDER_MOST) {
                    setCell(chosen, count, b);
                    count++;
                }
            }
        }

        private void measureHops(Tape tape) {
            for (int from = 0; from <= count; from++) {
                int place = from == count ? tape.head : tape.endOf(cell(chosen, from));
                for (int to = 0; to < count; to++) {
                    int b = cell(chosen, to);
                    int took = tape.sooner(place, tape.beginOf(b)) + tape.playedThrough(tape.longOf(b));
                    setCell(hops, from * ORDER_MOST + to, took);
                }
            }
        }

        private int ticksBy(int from, int to, int left) {
            return cell(hops, from * ORDER_MOST + to) + cell(fewest, (left ^ 1 << to) * ORDER_MOST + to);
        }

        private int fewestFrom(int from, int left) {
            int least = MORE_THAN_ANY;
            for (int to = 0; to < count; to++) {
                if ((left >> to & 1) == 1) least = Math.min(least, ticksBy(from, to, left));
            }
            return least;
        }

        private void followFirst() {
            int left = (1 << count) - 1;
            int from = count;
            ticksInAll = left == 0 ? 0 : fewestFrom(from, left);
            for (int i = 0; i < count; i++) {
                int to = firstOfFewest(from, left);
                setCell(stops, i, cell(chosen, to));
                left ^= 1 << to;
                from = to;
            }
        }

        private int firstOfFewest(int from, int left) {
            int least = fewestFrom(from, left);
            for (int to = 0; to < count; to++) {
                if ((left >> to & 1) == 1 && ticksBy(from, to, left) == least) return to;
            }
            return 0;
        }
    }

    /** One of SHEETS: what the machine would refuse is found here ahead of it. */
    private static final class Sheet {
        private static final int NOTHING = -1, BYTES = 0, SHORTS = 1;

        private final int[] cells = new int[CELLS_MOST];
        int laneNow = NOTHING;
        int cellCount = 0;

        boolean isNothing() {
            return laneNow == NOTHING;
        }

        void makeNew(int lane, int n) {
            laneNow = lane;
            cellCount = n;
            for (int i = 0; i < CELLS_MOST; i++) setCell(cells, i, 0);
        }

        int faultOf(int lane, int i) {
            if (isNothing()) return FAULT_NULL;
            if (lane != laneNow) return FAULT_CAST;
            return isBetween(i, 0, cellCount - 1) ? NO_FAULT : FAULT_INDEX;
        }

        int cellAt(int i) {
            return cell(cells, i);
        }

        void put(int i, int v) {
            int lowest = laneNow == BYTES ? (byte) v : laneNow == SHORTS ? (short) v : v;
            setCell(cells, i, lowest);
        }
    }

    /** THE LETTERS, read token by token into a draft, so that a text with a FAULT leaves the tape alone. */
    private static final class TextReader {
        private static final int END = 0, NAME = 1, NUMBER = 2, SIGN = 3, BROKEN = 4;
        private static final int BLANK = 32, FIGURES_MOST = 4;

        private final byte[] letters = new byte[LETTERS_MOST];
        final Tape draft = new Tape();
        int letterCount;
        private int next;
        private int kind;
        private int start;
        private int value;
        private int toldRules;
        int faultCode;
        int faultPlace;

        void addLetter(byte letter) {
            if (letterCount >= 0 && letterCount < letters.length) letters[letterCount] = letter;
            letterCount++;
        }

        /** How many lines THE LETTERS tell; it counts only if there is no FAULT. */
        int takeAll() {
            draft.reset();
            next = 0;
            toldRules = 0;
            faultCode = NO_FAULT;
            faultPlace = 0;
            int lines = 0;
            readToken();
            while (kind != END && faultCode == NO_FAULT && lines < LETTERS_MOST) {
                takeLine();
                lines++;
            }
            draft.layOutBlocks();
            draft.typedCount = 0;
            if (draft.endOf(draft.blockCount - 1) > draft.ruled(LENGTH)) refuse(6, letterCount);
            return lines;
        }

        /** The first FAULT that is met stays. */
        private void refuse(int code, int place) {
            if (faultCode != NO_FAULT) return;
            faultCode = code;
            faultPlace = place;
        }

        // -- TOKENS

        /** Behind the end: -1. */
        private int letterAt(int i) {
            return i >= 0 && i < letterCount && i < letters.length ? letters[i] & 255 : -1;
        }

        private static boolean isSmallLetter(int c) {
            return c >= 'a' && c <= 'z';
        }

        private static boolean isFigure(int c) {
            return c >= '0' && c <= '9';
        }

        private void readToken() {
            while (next < letterCount && letterAt(next) == BLANK) next++;
            start = next;
            int c = letterAt(start);
            if (c < 0) {
                kind = END;
            } else if (isSmallLetter(c)) {
                kind = NAME;
                while (next < letterCount && isSmallLetter(letterAt(next))) next++;
            } else if (isFigure(c)) {
                readNumber();
            } else {
                kind = c == ';' ? SIGN : BROKEN;
                next++;
            }
            if (kind == BROKEN) refuse(1, start);
        }

        private void readNumber() {
            while (next < letterCount && isFigure(letterAt(next))) next++;
            kind = next - start > FIGURES_MOST ? BROKEN : NUMBER;
            value = 0;
            if (kind == BROKEN) return;
            for (int i = start; i < next; i++) value = value * 10 + letterAt(i) - '0';
        }

        private boolean isNamed(String name) {
            if (kind != NAME || next - start != name.length()) return false;
            for (int i = 0; i < name.length(); i++) {
                if (letterAt(start + i) != name.charAt(i)) return false;
            }
            return true;
        }

        private int ruleNamed() {
            if (isNamed("length")) return LENGTH;
            if (isNamed("hub")) return HUB;
            if (isNamed("thick")) return THICK;
            if (isNamed("play")) return PLAY;
            if (isNamed("wind")) return WIND;
            if (isNamed("ramp")) return RAMP;
            if (isNamed("gap")) return GAP;
            if (isNamed("dense")) return DENSE;
            if (isNamed("hitch")) return HITCH;
            return NONE;
        }

        // -- lines

        private void takeLine() {
            int r = ruleNamed();
            if (r != NONE) takeRule(r);
            else if (isNamed("block")) takeBlock();
            else if (isNamed("mark")) takeMark();
            else refuse(2, start);
            if (faultCode == NO_FAULT) takeSign();
        }

        private void takeRule(int r) {
            if ((toldRules >> r & 1) == 1) {
                refuse(4, start);
                return;
            }
            toldRules |= 1 << r;
            readToken();
            if (!isNumberWithin(cell(RULE_LEAST, r), cell(RULE_MOST, r))) return;
            setCell(draft.rules, r, value);
            readToken();
        }

        private void takeBlock() {
            if (!hasRoomForBlock()) return;
            draft.typedCount = 0;
            readToken();
            for (int i = 0; i <= BYTES_MOST && (i == 0 || kind == NUMBER); i++) {
                if (!isNumberWithin(0, 255)) return;
                if (i == BYTES_MOST) refuse(5, start);
                else draft.typeOne(value);
                readToken();
            }
            draft.putBlock(draft.blockCount, 0, draft.typedCount);
        }

        private void takeMark() {
            if (!hasRoomForBlock()) return;
            draft.putBlock(draft.blockCount, 0, 0);
            readToken();
        }

        private boolean hasRoomForBlock() {
            if (draft.blockCount < BLOCKS_MOST) return true;
            refuse(5, start);
            return false;
        }

        private boolean isNumberWithin(int least, int most) {
            if (kind != NUMBER) refuse(2, start);
            else if (!isBetween(value, least, most)) refuse(3, start);
            return faultCode == NO_FAULT;
        }

        private void takeSign() {
            if (kind == SIGN) readToken();
            else refuse(2, start);
        }
    }
}
