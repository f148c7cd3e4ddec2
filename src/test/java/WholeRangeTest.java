/**
 * Numbers of the whole int range, and eight bytes of any kind, given to every call: each is answered, as the plain
 * model answers it, and what is there behind it is what the plain model has.
 */
public final class WholeRangeTest {
    private static final int MIN = Integer.MIN_VALUE, MAX = Integer.MAX_VALUE;
    // Behind these an object has calls enough left to tell the whole of itself.
    private static final int CALLS = 60;
    private static final int[] NUMBERS = {MIN, MIN + 1, MIN + 12, -1000000000, -65537, -65536, -32769, -32768, -1000,
        -257, -256, -255, -129, -128, -100, -20, -12, -8, -5, -4, -3, -2, -1, 0, 1, 2, 3, 4, 5, 8, 9, 10, 11, 12, 13,
        16, 17, 18, 19, 20, 21, 39, 40, 41, 98, 99, 100, 127, 128, 180, 199, 200, 201, 254, 255, 256, 257, 400, 511,
        512, 998, 999, 1000, 1001, 4095, 4096, 9998, 9999, 10000, 10001, 32767, 32768, 46340, 46341, 65535, 65536,
        92681, 92682, 999999, 1000000, 1 << 20, 1 << 30, MAX - 40, MAX - 12, MAX - 1, MAX};
    // Each call with numbers that it takes in the state that States tells; one or two of them are changed.
    private static final String[] CALL = {"end", "rule", "turns", "turns", "shows", "ticks", "go", "now", "within",
        "within", "block", "blockAt", "type", "write", "mark", "spoil", "dead", "check", "got", "column", "state",
        "best", "order", "reads", "cut", "holds", "most", "stream", "buffer", "saw", "fits", "keep", "back", "sheet",
        "lay", "read", "count"};
    private static final int[][] TAKEN = {{8}, {1}, {50, 0}, {50, 1}, {3, 0}, {30, 90, 2}, {70}, {1}, {50, 0}, {50, 1},
        {0, 1}, {5}, {65}, {1}, {2}, {0, 1, 2}, {4}, {0}, {0, 1}, {0, 2}, {1}, {1}, {5, 10}, {6}, {50, 90}, {5}, {1},
        {5, 2, 30, 2, 0}, {5, 2, 30, 0}, {3, 30}, {1}, {0}, {1}, {1, 1, 9}, {0, 1, 70}, {0, 0, 0, 1}, {1}};

    private static long seed = 42;
    private static TwoReels x;
    private static PlainModel m;
    private static int calls;

    public static void main(String[] args) {
        Due.topic("whole range");
        anew();
        for (int i = 0; i < CALL.length; i++) {
            for (int at = 0; at < TAKEN[i].length; at++) oneNumber(CALL[i], TAKEN[i], at);
        }
        allNumbers();
        compareAll("the last calls");
        for (int i = 0; i < CALL.length; i++) twoNumbers(CALL[i], TAKEN[i]);
        eightBytesOfAnyKind();
        Due.close();
    }

    private static void anew() {
        x = new TwoReels();
        m = new PlainModel();
        States.use(x);
        States.use(m);
        calls = 0;
    }

    private static void compareAll(String call) {
        Whole.same("all behind " + call, Whole.of(x), Whole.of(m));
    }

    private static void ask(String call, long... numbers) {
        if (calls == CALLS) {
            compareAll("calls, the last of them ahead of " + Calls.told(call, numbers));
            anew();
        }
        calls++;
        Due.is(Calls.told(call, numbers), Calls.ask(x, call, numbers), Calls.ask(m, call, numbers));
    }

    private static void oneNumber(String call, int[] taken, int at) {
        for (int number : NUMBERS) ask(call, with(taken, at, number));
    }

    private static long[] with(int[] taken, int at, int number) {
        long[] numbers = new long[taken.length];
        for (int i = 0; i < taken.length; i++) numbers[i] = i == at ? number : taken[i];
        return numbers;
    }

    /** Each pair of numbers of a call, in turn: sums and products of them may be beyond an int. */
    private static void twoNumbers(String call, int[] taken) {
        if (taken.length < 2) return;
        anew();
        for (int a = 0; a < NUMBERS.length; a += 3) {
            for (int b = 0; b < NUMBERS.length; b += 2) {
                long[] numbers = with(taken, 0, NUMBERS[a]);
                numbers[taken.length == 4 ? 2 : 1] = NUMBERS[b];
                ask(call, numbers);
            }
        }
    }

    private static int pick(int below) {
        seed = seed * 6364136223846793005L + 1442695040888963407L;
        return (int) ((seed >>> 33) % below);
    }

    private static void allNumbers() {
        for (int turn = 0; turn < 8000; turn++) {
            int i = pick(CALL.length);
            long[] numbers = new long[TAKEN[i].length];
            for (int at = 0; at < numbers.length; at++) {
                numbers[at] = pick(2) == 0 ? NUMBERS[pick(NUMBERS.length)] : (int) (seed >>> pick(30));
            }
            ask(CALL[i], numbers);
        }
    }

    private static void eightBytesOfAnyKind() {
        long[] wild = {0, -1, 1, Long.MIN_VALUE, Long.MAX_VALUE, MIN, MAX, 0x8000000080000000L, 0x7f7f7f7f7f7f7f7fL,
            0x2020202020202020L, 0x6d61726b3b6d6172L, 0x6b3b000000000000L, 0x6875622037373b3bL, 0x6875622035352eL};
        for (int turn = 0; turn < 200; turn++) {
            anew();
            x.end(0);
            m.end(0);
            int eights = pick(4) == 0 ? 51 : pick(6);
            for (int i = 0; i < eights; i++) ask("feed", pick(2) == 0 ? wild[pick(wild.length)] : seed ^ seed << 21);
            ask("end", m.count(5) - pick(8));
            ask("text");
            ask("fault");
            compareAll("a text of any kind");
        }
    }
}
