/**
 * Every number that every call takes: the least and the greatest one are taken, the next one beyond each, and those of
 * the whole int range that lie far beyond, are BAD and change nothing. All is asked in the state that States tells.
 */
public final class BoundsTest {
    private static final int BAD = TwoReels.BAD;
    private static final long MIN = Integer.MIN_VALUE, MAX = Integer.MAX_VALUE;
    // A number cut to 8, 16 or 31 bits would come back into its bounds.
    private static final long[] FAR = {MIN, MIN + 1, -65536, -256, 65536, 1 << 20, 1 << 30, MAX - 1, MAX};

    public static void main(String[] args) {
        textCalls();
        reelCalls();
        blockCalls();
        readCalls();
        tapeCalls();
        sheetCalls();
        Due.close();
    }

    private static void textCalls() {
        Due.topic("bounds, the text");
        bounds(0, 11, "end", 0, 0);
        bounds(0, 8, "rule", 0, 0);
        fullBounds(0, 400, "end", 0, 0);
    }

    private static void reelCalls() {
        Due.topic("bounds, reels and ticks");
        bounds(0, 200, "turns", 0, 0, 0);
        bounds(0, 200, "turns", 0, 0, 1);
        bounds(0, MAX, "shows", 0, 0, 0);
        bounds(0, 1, "shows", 1, 3, 0);
        bounds(0, 200, "ticks", 0, 0, 100, 2);
        bounds(0, 200, "ticks", 1, 100, 0, 2);
        for (int what = 0; what < 3; what++) bounds(0, 2, "ticks", 2, what, 200 - what, 0);
        bounds(0, 200, "go", 0, 0);
        bounds(0, 5, "now", 0, 0);
        bounds(0, 999999, "within", 0, 0, 0);
        bounds(0, 999999, "within", 0, 0, 1);
        fullBounds(0, 65, "go", 0, 0);
    }

    private static void blockCalls() {
        Due.topic("bounds, blocks");
        bounds(0, 3, "block", 0, 0, 0);
        for (int b = 0; b < 4; b++) bounds(0, 4, "block", 1, b, 0);
        bounds(0, 200, "blockAt", 0, 0);
        bounds(0, 255, "type", 0, 0);
        bounds(0, 4, "write", 0, 0);
        bounds(0, 4, "mark", 0, 0);
        bounds(2, 3, "spoil", 0, 2, 0, 0);
        bounds(0, 0, "spoil", 0, 0, 0, 0);
        bounds(0, 3, "spoil", 1, 0, 0, 0);
        bounds(0, 2, "spoil", 1, 3, 0, 0);
        for (int i = 0; i < 4; i++) bounds(0, 8, "spoil", 2, 0, i, 0);
        bounds(0, 8, "dead", 0, 0);
        fullBounds(0, 12, "write", 0, 0);
        fullBounds(0, 12, "mark", 0, 0);
        fullBounds(0, 11, "block", 0, 0, 1);
        fullBounds(0, 255, "type", 0, 0);
        for (int track : new int[] {-3, -2, -5, -6}) bad("dead", track);
        Due.is("dead(NONE)", States.used().dead(TwoReels.NONE), 3);
        for (int i = -1; i < 3; i++) bad("spoil", 1, i, 0);
    }

    private static void readCalls() {
        Due.topic("bounds, what is read");
        bounds(0, 3, "check", 0, 0);
        bounds(2, 3, "got", 0, 2, 0);
        bounds(0, 2, "got", 1, 0, 0);
        bounds(0, 0, "got", 1, 2, 0);
        bounds(0, 1, "got", 1, 3, 0);
        bounds(2, 3, "column", 0, 2, 0);
        bounds(0, 3, "column", 1, 0, 0);
        bounds(0, 1, "column", 1, 2, 0);
        bounds(0, 2, "column", 1, 3, 0);
        bounds(0, 2, "state", 0, 0);
        bounds(0, 1, "best", 0, 0);
        bounds(0, 15, "order", 0, 0, 0);
        bounds(0, 0, "order", 1, 15, 0);
        bounds(10, 13, "order", 1, 15, 10);
        bounds(10, 10, "order", 1, 8, 10);
        bounds(0, 15, "reads", 0, 0);
        fullBounds(0, 11, "check", 0, 0);
        fullBounds(0, 4095, "order", 0, 0, 0);
        fullBounds(0, 4095, "reads", 0, 0);
        fullBounds(10, 17, "order", 1, 4095 - 15, 10);
        for (int i = -1; i < 3; i++) bad("got", 1, i);
        for (int i = -1; i < 3; i++) bad("column", 1, i);
    }

    private static void tapeCalls() {
        Due.topic("bounds, tape");
        bounds(0, 99, "cut", 0, 0, 100);
        bounds(101, 200, "cut", 1, 100, 101);
        bounds(0, 199, "cut", 0, 0, 200);
        bounds(1, 200, "cut", 1, 0, 1);
        bounds(1, 99, "holds", 0, 1);
        bounds(0, 1, "most", 0, 0);
        bounds(1, 99, "stream", 0, 5, 2, 30, 2, 0);
        bounds(1, 99, "stream", 1, 5, 2, 30, 2, 0);
        bounds(0, 9999, "stream", 2, 5, 2, 30, 2, 0);
        bounds(1, 99, "stream", 3, 5, 2, 30, 2, 0);
        bounds(0, 1, "stream", 4, 5, 2, 30, 2, 0);
        bounds(1, 99, "buffer", 0, 5, 2, 30, 0);
        bounds(1, 99, "buffer", 1, 5, 2, 30, 0);
        bounds(0, 9999, "buffer", 2, 5, 2, 30, 0);
        bounds(0, 1, "buffer", 3, 5, 2, 30, 0);
        bounds(0, 999, "saw", 0, 0, 0);
        bounds(0, 9999, "saw", 1, 0, 0);
        bounds(0, 2, "fits", 0, 0);
        fullBounds(0, 999, "saw", 0, 0, 0);
        fullBounds(0, 9999, "saw", 1, 0, 0);
    }

    private static void sheetCalls() {
        Due.topic("bounds, images and sheets");
        bounds(0, 1, "keep", 0, 0);
        bounds(0, 1, "back", 0, 0);
        bounds(0, 3, "sheet", 0, 0, 0, 1);
        bounds(0, 3, "sheet", 0, 0, 0, -1);
        bounds(0, 2, "sheet", 1, 0, 0, 1);
        bounds(0, 2, "sheet", 1, 0, 0, -1);
        bounds(MIN, 40, "sheet", 2, 0, 0, 0);
        bounds(0, 3, "lay", 0, 0, 0, 0);
        bounds(MIN, MAX, "lay", 1, 0, 0, 0);
        bounds(MIN, MAX, "lay", 2, 0, 0, 0);
        bounds(0, 3, "read", 0, 0, 0, 0, 1);
        bounds(0, 2, "read", 1, 0, 0, 0, 1);
        bounds(MIN, MAX, "read", 2, 0, 0, 0, 1);
        bounds(0, 12, "read", 3, 0, 0, 0, 0);
        bounds(0, 12, "read", 3, 3, 2, -1, 0);
        bounds(0, 6, "count", 0, 0);
        fullBounds(0, 12, "read", 3, 0, 0, 0, 0);
    }

    /** Of a call the number at an index goes from least to most, the others stay as they are told. */
    private static void bounds(long least, long most, String call, int index, long... numbers) {
        bounds(false, least, most, call, index, numbers);
    }

    private static void fullBounds(long least, long most, String call, int index, long... numbers) {
        bounds(true, least, most, call, index, numbers);
    }

    private static void bounds(boolean isFull, long least, long most, String call, int index, long... numbers) {
        takes(isFull, call, with(numbers, index, least));
        takes(isFull, call, with(numbers, index, most));
        if (least > MIN) badIn(isFull, call, with(numbers, index, least - 1));
        if (most < MAX) badIn(isFull, call, with(numbers, index, most + 1));
        for (long far : FAR) {
            if (far < least || far > most) badIn(isFull, call, with(numbers, index, far));
        }
    }

    private static long[] with(long[] numbers, int index, long number) {
        long[] changed = numbers.clone();
        changed[index] = number;
        return changed;
    }

    /** Whatever else it answers: no number of it is BAD. */
    private static void takes(boolean isFull, String call, long[] numbers) {
        int answer = Calls.ask(state(isFull), call, numbers);
        Due.holds(Calls.told(call, numbers) + " is taken, but answered " + answer, answer != BAD);
    }

    private static void bad(String call, long... numbers) {
        badIn(false, call, numbers);
    }

    private static void badIn(boolean isFull, String call, long... numbers) {
        TwoReels x = state(isFull);
        String told = Calls.told(call, numbers);
        Due.is(told, Calls.ask(x, call, numbers), BAD);
        Whole.same(told + " changes nothing", Whole.of(x), Whole.of(state(isFull)));
    }

    private static TwoReels state(boolean isFull) {
        return isFull ? States.full() : States.used();
    }
}
