import java.util.List;

/**
 * Each call that can be refused otherwise than by BAD (BoundsTest has that one): the answer, of several that fit the
 * first one, and that nothing is changed, but as the document tells.
 */
public final class RefusedTest {
    private static final int BAD = TwoReels.BAD, STATE = TwoReels.STATE, FULL = TwoReels.FULL, NONE = TwoReels.NONE;
    private static final long MIN = Integer.MIN_VALUE, MAX = Integer.MAX_VALUE;

    /** How an object comes to where a call is refused. */
    private interface Way {
        void go(TwoReels x);
    }

    public static void main(String[] args) {
        texts();
        feed();
        write();
        mark();
        typeAndSaw();
        nowhere();
        orders();
        cut();
        back();
        sheetAndLay();
        readNoByte();
        readNoRoom();
        readByTheMachine();
        Due.close();
    }

    private static void refused(int due, Way way, String call, long... numbers) {
        TwoReels x = new TwoReels();
        TwoReels same = new TwoReels();
        way.go(x);
        way.go(same);
        String told = Calls.told(call, numbers);
        Due.is(told, Calls.ask(x, call, numbers), due);
        Whole.same(told + " changes nothing", Whole.of(x), Whole.of(same));
    }

    /** THE LETTERS are none then, by a FAULT, too; all else stays, but what fault() answers. */
    private static void texts() {
        Due.topic("text refused");
        String[] texts = {"#", "hub 20;gap 0;mark;ramp 00005;", "hub 20;mark;block", "block 7;gap 100;", "gap 0;gap 0;",
            "mark;".repeat(13), "block 1 2 3 4 5 6 7 8 9 10 11 12 13;", "mark;gap 20;length 20;"};
        int[] places = {0, 23, 17, 12, 6, 60, 33, 22};
        int[] faults = {1, 1, 2, 3, 4, 5, 5, 6};
        for (int i = 0; i < texts.length; i++) {
            TwoReels x = States.used();
            TwoReels same = States.used();
            Due.refuses(x, texts[i], places[i], faults[i]);
            same.end(0);
            List<String> told = Whole.of(x);
            Due.holds("fault() stays " + faults[i], told.get(0).equals("fault() = " + faults[i]));
            List<String> due = Whole.of(same);
            for (List<String> all : List.of(told, due)) all.removeIf(s -> s.startsWith("fault()"));
            Whole.same("\"" + texts[i] + "\" changes nothing", told, due);
        }
    }

    private static void feed() {
        Due.topic("feed refused");
        for (long v : new long[] {0, -1, Long.MIN_VALUE, Long.MAX_VALUE, 0x6d61726b3b202020L}) {
            refused(FULL, States::fill, "feed", v);
            refused(FULL, x -> lettersOf(x, 393), "feed", v);
        }
    }

    private static void lettersOf(TwoReels x, int n) {
        States.fill(x);
        x.end(n);
    }

    private static void write() {
        Due.topic("write refused");
        for (int k = 0; k < 5; k++) refused(STATE, RefusedTest::nothingTyped, "write", k);
        refused(STATE, RefusedTest::twelveMarks, "write", 12);
        refused(FULL, States::fill, "write", 12);
        refused(FULL, States::fill, "write", 11);
        refused(BAD, States::fill, "write", 13);
        refused(BAD, RefusedTest::nothingTyped, "write", 5);
        refused(BAD, RefusedTest::nothingTyped, "write", -1);
        refused(FULL, x -> near(x, "length 20;gap 7;dense 2;mark;", 10), "write", 1);
        refused(FULL, x -> near(x, "length 20;gap 99;", 1), "write", 0);
        refused(FULL, x -> near(x, "length 20;gap 20;", 1), "write", 0);
    }

    private static void nothingTyped(TwoReels x) {
        Due.tell(x, States.FOUR);
        x.go(33);
        x.keep(0);
        x.sheet(0, 0, 1);
    }

    private static void twelveMarks(TwoReels x) {
        Due.tell(x, "mark;".repeat(12));
    }

    private static void near(TwoReels x, String text, int typed) {
        Due.tell(x, text);
        for (int i = 0; i < typed; i++) x.type(i);
        x.go(x.rule(0));
    }

    private static void mark() {
        Due.topic("mark refused");
        refused(FULL, States::fill, "mark", 12);
        refused(FULL, RefusedTest::twelveMarks, "mark", 12);
        refused(BAD, RefusedTest::twelveMarks, "mark", 13);
        refused(FULL, x -> near(x, "length 20;gap 9;mark;mark;", 2), "mark", 2);
        refused(FULL, x -> near(x, "length 20;gap 99;", 2), "mark", 0);
        refused(BAD, x -> near(x, "length 20;gap 99;", 2), "mark", 1);
    }

    private static void typeAndSaw() {
        Due.topic("type and saw refused");
        for (int v : new int[] {0, 1, 255}) refused(FULL, States::fill, "type", v);
        refused(BAD, States::fill, "type", 256);
        refused(BAD, States::fill, "type", -1);
        refused(FULL, States::fill, "saw", 0, 0);
        refused(FULL, States::fill, "saw", 999, 9999);
        refused(BAD, States::fill, "saw", 1000, 0);
        refused(BAD, States::fill, "saw", 0, 10000);
    }

    private static void nowhere() {
        Due.topic("NONE");
        refused(NONE, States::use, "shows", 11, 0);
        refused(NONE, States::use, "shows", MAX, 1);
        refused(BAD, States::use, "shows", MAX, 2);
        refused(NONE, States::use, "blockAt", 0);
        refused(NONE, States::use, "got", 2, 0);
        refused(BAD, States::use, "got", 2, 1);
        refused(NONE, RefusedTest::seenWhatCanNotBe, "fits", 1);
        refused(NONE, RefusedTest::seenWhatCanNotBe, "fits", 2);
        refused(BAD, RefusedTest::seenWhatCanNotBe, "fits", 3);
    }

    private static void seenWhatCanNotBe(TwoReels x) {
        States.use(x);
        x.saw(0, 99);
    }

    private static void orders() {
        Due.topic("order and reads refused");
        for (int some : new int[] {511, 4095, 4094 - 1, 0xff8}) {
            refused(STATE, States::fill, "order", some, 0);
            refused(STATE, States::fill, "order", some, 10);
            refused(STATE, States::fill, "order", some, 17);
            refused(BAD, States::fill, "order", some, 18);
            refused(STATE, States::fill, "reads", some);
        }
        refused(BAD, States::fill, "order", 8191, 0);
        refused(BAD, States::fill, "reads", 8191);
        refused(BAD, States::fill, "order", -1, 0);
        refused(BAD, States::fill, "reads", -1);
        refused(BAD, States::fill, "order", 4096, 0);
        refused(BAD, States::fill, "reads", MIN);
    }

    private static void cut() {
        Due.topic("cut refused");
        refused(STATE, States::use, "cut", 0, 181);
        refused(STATE, States::use, "cut", 19, 200);
        refused(STATE, States::use, "cut", 10, 191);
        refused(STATE, States::use, "cut", 0, 200);
        refused(BAD, States::use, "cut", 0, 201);
        refused(BAD, States::use, "cut", -1, 200);
        refused(BAD, States::use, "cut", MIN, MAX);
        refused(BAD, States::use, "cut", 200, 0);
        for (int x = 0; x < 20; x++) refused(STATE, y -> near(y, "length 20;", 1), "cut", x, x + 1);
        refused(BAD, x -> near(x, "length 20;", 1), "cut", 20, 21);
    }

    private static void back() {
        Due.topic("back refused");
        refused(STATE, States::use, "back", 0);
        refused(STATE, RefusedTest::twelveMarks, "back", 1);
        refused(BAD, RefusedTest::twelveMarks, "back", 2);
    }

    private static void sheetAndLay() {
        Due.topic("sheet and lay refused");
        for (long n : new long[] {-1, -2, -40, MIN}) {
            for (int k = 0; k < 4; k++) refused(-14, States::use, "sheet", k, k % 3, n);
            refused(BAD, States::use, "sheet", 4, 0, n);
            refused(BAD, States::use, "sheet", 0, 3, n);
        }
        for (long i : new long[] {0, -1, 1, MIN, MAX}) refused(-11, States::use, "lay", 3, i, 1);
        for (long i : new long[] {-1, 3, 39, 40, MIN, MAX}) refused(-12, States::use, "lay", 0, i, 1);
        refused(-12, States::use, "lay", 1, 2, 1);
        refused(-12, States::use, "lay", 2, 1, 1);
        refused(-12, x -> emptySheet(x), "lay", 0, 0, 1);
    }

    private static void emptySheet(TwoReels x) {
        States.use(x);
        x.sheet(0, 2, 0);
    }

    /** CELL 1 of SHEET 0 and CELL 0 of SHEET 1 are no BYTES. */
    private static void readNoByte() {
        Due.topic("read refused: no BYTE");
        refused(-20, States::use, "read", 0, 0, 1, 1);
        refused(-21, States::use, "read", 0, 0, 0, 2);
        refused(-21, States::use, "read", 0, 0, 0, 12);
        refused(-20, States::use, "read", 1, 1, 0, 3);
        for (int i = 0; i < 10; i++) {
            int at = i;
            refused(-20 - i, x -> noByteAt(x, at), "read", 0, 1, 0, 10);
        }
        refused(BAD, x -> noByteAt(x, 0), "read", 0, 1, 0, 13);
    }

    private static void noByteAt(TwoReels x, int i) {
        States.use(x);
        x.sheet(0, 1, 12);
        x.lay(0, i, 256);
    }

    private static void readNoRoom() {
        Due.topic("read refused: no room");
        refused(FULL, States::fill, "read", 3, 0, 0, 1);
        refused(FULL, States::fill, "read", 3, 0, 19, 12);
        refused(FULL, States::fill, "read", 3, 0, 8, 12);
        refused(BAD, States::fill, "read", 3, 0, 8, 13);
        refused(BAD, States::fill, "read", 4, 0, 0, 1);
        refused(BAD, States::fill, "read", 3, 3, 0, 1);
        for (int typed = 1; typed < 12; typed++) {
            int before = typed;
            refused(FULL, x -> elevenCells(x, before, -1), "read", 0, 2, 0, 13 - before);
            refused(FULL, x -> elevenCells(x, before, 13 - before), "read", 0, 2, 0, 12);
        }
        refused(-20, x -> elevenCells(x, 12, 0), "read", 0, 2, 0, 1);
        refused(-31, x -> elevenCells(x, 1, 11), "read", 0, 2, 0, 12);
    }

    /** 12 BYTES to be read, one of them (-1: none) no BYTE, and so many that are typed. */
    private static void elevenCells(TwoReels x, int typed, int noByte) {
        States.use(x);
        x.write(0);
        for (int i = 0; i < typed; i++) x.type(i);
        x.sheet(0, 2, 12);
        for (int i = 0; i < 12; i++) x.lay(0, i, i == noByte ? -1 : 50 + i);
    }

    /** What the machine refuses is no refusal of read(): those ahead are typed, and torn() tells its FAULT. */
    private static void readByTheMachine() {
        Due.topic("read, refused by the machine");
        for (int ahead = 0; ahead < 12; ahead++) {
            TwoReels x = new TwoReels();
            x.sheet(1, 0, 40);
            for (int i = 0; i < 40; i++) x.lay(1, i, 40 + i);
            Due.is("CELLS ahead of the end", x.read(1, 0, 40 - ahead, 12), ahead);
            Due.is("INDEX", x.torn(), 2);
            Due.is("those ahead are typed", x.now(4), ahead);
            for (int i = 0; i < ahead && (i > 0 || x.write(0) >= 0); i++) Due.is("BYTE", x.got(0, i), 80 - ahead + i);
        }
        TwoReels full = States.full();
        Due.is("12 are typed, and the CELL is not there", full.read(3, 0, 20, 1), 0);
        Due.is("INDEX", full.torn(), 2);
        Due.is("12 are typed, and the lane is another", full.read(3, 1, 0, 1), 0);
        Due.is("CAST", full.torn(), 3);
        Due.is("now(4)", full.now(4), 12);
    }
}
