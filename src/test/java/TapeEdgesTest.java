/** CUT, how much fits, A STREAM (promises 28 to 32): the edges that the document names, a method a sentence. */
public final class TapeEdgesTest {
    private static final int BAD = TwoReels.BAD, STATE = TwoReels.STATE, NONE = TwoReels.NONE;
    private static final int MIN = Integer.MIN_VALUE, MAX = Integer.MAX_VALUE;

    public static void main(String[] args) {
        cutsFromPlaceToPlace();
        cutsDownTo20();
        cutLosesBlocksWithAPlaceInIt();
        cutWithinABlock();
        cutBetweenBlocks();
        cutLosesAllAndNone();
        cutBringsBlocksNearer();
        cutBringsTheHeadNearer();
        cutLeavesTheRest();
        holdsAGapAheadOfEach();
        holdsOneAnd99();
        mostOfSeveralTheLeast();
        mostOf1And99();
        streamOfAHostNeverLate();
        streamJustInTime();
        streamStopsAndWaitsLikewise();
        streamWaitsForAFullBuffer();
        streamWaitsForAllThatAreLeft();
        streamOfOne();
        streamLeastAndGreatest();
        bufferOfTheFewestTicks();
        bufferFrom1ToN();
        Due.close();
    }

    private static void cutsFromPlaceToPlace() {
        Due.topic("CUT: from x to y");
        int[][] cuts = {{0, 1}, {0, 180}, {199, 200}, {20, 200}, {100, 101}};
        for (int[] c : cuts) {
            TwoReels x = Due.told("length 200;");
            Due.is("cut(" + c[0] + ", " + c[1] + ")", x.cut(c[0], c[1]), 0);
            Due.is("length is less", x.rule(0), 200 - c[1] + c[0]);
        }
        int[][] bad = {{0, 0}, {5, 5}, {200, 200}, {5, 4}, {200, 0}, {-1, 5}, {0, 201}, {200, 201}, {-1, 201}, {-1, 0},
            {201, 202}, {MIN, MAX}, {MAX, MIN}, {0, MAX}, {0, MIN}, {MIN, 0}, {MAX, MAX}, {MIN, MIN}};
        TwoReels x = Due.told("length 200;");
        for (int[] c : bad) Due.is("cut(" + c[0] + ", " + c[1] + ")", x.cut(c[0], c[1]), BAD);
        Due.is("length stays", x.rule(0), 200);
    }

    private static void cutsDownTo20() {
        Due.topic("CUT: 20 are left");
        TwoReels x = Due.told("length 23;");
        Due.is("19 would be left", x.cut(0, 4), STATE);
        Due.is("19 would be left, at the end", x.cut(19, 23), STATE);
        Due.is("none would be left", x.cut(0, 23), STATE);
        Due.is("21 are left", x.cut(21, 23), 0);
        Due.is("19 would be left of 21", x.cut(0, 2), STATE);
        Due.is("20 are left", x.cut(0, 1), 0);
        Due.is("length", x.rule(0), 20);
        for (int place = 0; place < 20; place++) Due.is("of 20 nothing", x.cut(place, place + 1), STATE);
        Due.is("behind its last PLACE", x.cut(20, 21), BAD);
        Due.is("9979 at once", Due.told("length 9999;").cut(20, 9999), 0);
    }

    /** A BLOCK with PLACES 10 to 13, MARKS ahead of it and behind. */
    private static TwoReels threeBlocks() {
        return Due.told("length 60;gap 4;dense 1;mark;block 1 2 3;mark;");
    }

    private static void cutLosesBlocksWithAPlaceInIt() {
        Due.topic("CUT: BLOCKS that have a PLACE in it");
        Due.is("it begins here", threeBlocks().block(1, 0), 9);
        Due.is("its end", threeBlocks().block(1, 4), 13);
        int[][] due = {{5, 9, 0}, {8, 9, 0}, {8, 10, 1}, {9, 10, 1}, {10, 11, 1}, {12, 13, 1}, {12, 14, 1}, {13, 14, 0},
            {13, 17, 0}, {13, 18, 1}, {12, 18, 2}, {4, 5, 1}, {4, 10, 2}, {0, 4, 0}, {0, 5, 1}, {0, 18, 3}, {4, 18, 3},
            {5, 17, 1}, {18, 40, 0}, {9, 13, 1}, {8, 14, 1}};
        for (int[] d : due) {
            TwoReels x = threeBlocks();
            Due.is("cut(" + d[0] + ", " + d[1] + ")", x.cut(d[0], d[1]), d[2]);
            Due.is("BLOCKS then", x.count(0), 3 - d[2]);
        }
    }

    private static void cutWithinABlock() {
        Due.topic("CUT: within a BLOCK");
        TwoReels x = Due.told("length 60;gap 4;dense 1;block 1 2 3 4 5 6 7 8 9 10 11 12;mark;");
        Due.is("it is lost", x.cut(10, 11), 1);
        Due.is("the MARK behind it is nearer", x.block(0, 0), 20);
        Due.is("and BLOCK 0", x.count(1), 1);
        Due.is("there is no other", x.block(1, 0), BAD);
        Due.is("where it was there is none", x.blockAt(4), NONE);
    }

    private static void cutBetweenBlocks() {
        Due.topic("CUT: of a gap");
        TwoReels x = threeBlocks();
        Due.is("all of it", x.cut(5, 9), 0);
        Due.is("BLOCK 1 is behind BLOCK 0", x.block(1, 0), x.block(0, 4));
        Due.is("PLACE 4", x.blockAt(4), 0);
        Due.is("PLACE 5", x.blockAt(5), 1);
        Due.is("BLOCK 2", x.block(2, 0), 13);
        Due.is("its first PLACE", x.cut(5, 6), 1);
        Due.is("BLOCK 1 was BLOCK 2", x.block(1, 0), 12);
    }

    private static void cutLosesAllAndNone() {
        Due.topic("CUT: all BLOCKS, none");
        TwoReels x = Due.told("mark;block 1 2;".repeat(6));
        Due.is("all of them", x.cut(0, 900), 12);
        Due.is("BLOCKS", x.count(0), 0);
        Due.is("PLACES behind none", x.now(5), 100);
        Due.is("none of none", x.cut(0, 80), 0);
        TwoReels last = Due.told("length 20;gap 18;mark;");
        Due.is("nothing is cut", last.cut(0, 1), STATE);
        TwoReels all = Due.told("mark;block 1 2;".repeat(6));
        Due.is("all but the first and the last", all.cut(7, all.block(11, 0)), 10);
        Due.is("the first one", all.block(0, 0), 6);
        Due.is("the last one", all.block(1, 0), 7);
        Due.is("its BYTES", all.got(1, 1), 2);
    }

    private static void cutBringsBlocksNearer() {
        Due.topic("CUT: BLOCKS behind it");
        TwoReels x = Due.told("block 5;" + "block 1 2 3 4 5 6 7 8 9 10 11 12;".repeat(3) + "mark;block 200;");
        x.spoil(2, 0, 0);
        x.spoil(2, 12, 8);
        x.spoil(3, 11, 3);
        for (int c = 0; c < 4; c++) x.spoil(5, c / 2, c % 2);
        int[] begins = new int[6];
        for (int b = 0; b < 6; b++) begins[b] = x.block(b, 0);
        Due.is("FOOLED", x.state(1), 32);
        Due.is("BLOCK 1 is lost", x.cut(begins[1], begins[1] + 3), 1);
        Due.is("BLOCK 0 stays", x.block(0, 0), begins[0]);
        for (int b = 1; b < 5; b++) Due.is("BLOCK " + b, x.block(b, 0), begins[b + 1] - 3);
        Due.is("what was spoiled of 2 is spoiled of 1", x.column(1, 0), 0);
        Due.is("LOST", x.state(0), 2);
        Due.is("MENDED", x.state(2), 4);
        Due.is("FOOLED", x.state(1), 16);
        Due.is("the last BYTE of 3 is that of 2", x.got(2, 11), 12);
        Due.is("the MARK", x.block(3, 2), 0);
        Due.is("the last one", x.block(4, 2), 1);
        whatWasWrittenComesWithThem();
    }

    private static void whatWasWrittenComesWithThem() {
        for (int lost = 0; lost < 4; lost++) {
            TwoReels x = Due.told("block 1 2 3;block 14 15 16 17 18 19 20 21 22 23 24 25;mark;block 37;block 48 59;");
            x.cut(x.block(lost, 0), x.block(lost, 4));
            Due.is("none is FOOLED behind BLOCK " + lost, x.state(1), 0);
            Due.is("the last BYTE", x.got(3, 1), 59);
            x.spoil(3, 1, 1);
            x.spoil(3, 1, 2);
            x.spoil(3, 2, 1);
            x.spoil(3, 2, 2);
            Due.is("but one that is", x.state(1), 8);
        }
    }

    private static void cutBringsTheHeadNearer() {
        Due.topic("CUT: THE HEAD");
        // Where it was, x, y, where it is then.
        int[][] due = {{0, 0, 5, 0}, {0, 1, 5, 0}, {4, 0, 5, 0}, {5, 0, 5, 0}, {6, 0, 5, 1}, {40, 0, 5, 35},
            {9, 10, 20, 9}, {10, 10, 20, 10}, {11, 10, 20, 10}, {19, 10, 20, 10}, {20, 10, 20, 10}, {21, 10, 20, 11},
            {40, 10, 20, 30}, {40, 39, 40, 39}, {39, 39, 40, 39}, {38, 39, 40, 38}, {40, 20, 40, 20}, {30, 20, 40, 20}};
        for (int[] d : due) {
            TwoReels x = Due.told("length 40;");
            x.go(d[0]);
            Due.is("cut(" + d[1] + ", " + d[2] + ")", x.cut(d[1], d[2]), 0);
            Due.is("THE HEAD that was at " + d[0], x.now(0), d[3]);
        }
    }

    private static void cutLeavesTheRest() {
        Due.topic("CUT: what stays");
        TwoReels x = States.used();
        int ticks = x.now(1);
        x.cut(0, 150);
        Due.is("TICKS", x.now(1), ticks);
        Due.is("DEAD", x.now(3), 3);
        Due.is("typed", x.now(4), 2);
        Due.is("SEEN", x.count(3), 2);
        Due.is("IMAGES", x.count(4), 1);
        Due.is("LETTERS", x.count(5), 11);
        for (int r = 1; r < 9; r++) Due.is("rule(" + r + ")", x.rule(r), States.used().rule(r));
        Due.is("IMAGE 1 has its length", x.back(1) * x.rule(0), 4 * 200);
        Due.is("and its BLOCKS", x.block(3, 0), 20);
    }

    private static void holdsAGapAheadOfEach() {
        Due.topic("holds: a gap ahead of each");
        for (int length = 20; length < 40; length++) {
            TwoReels x = Due.told("length " + length + ";gap 8;dense 1;");
            Due.is("of 1, length " + length, x.holds(1), length / 10);
            Due.is("of 11, length " + length, x.holds(11), length / 20);
            int blocks = x.holds(1);
            for (int k = 0; k < blocks; k++) {
                x.type(k);
                Due.holds("BLOCK " + k + " has room", x.write(k) > 0);
            }
            x.type(1);
            Due.is("no more have room", x.write(blocks), TwoReels.FULL);
        }
    }

    private static void holdsOneAnd99() {
        Due.topic("holds: n 1 to 99");
        TwoReels x = Due.told("length 100;gap 0;dense 1;");
        Due.is("of 1", x.holds(1), 50);
        Due.is("of 99: just one", x.holds(99), 1);
        TwoReels less = Due.told("length 99;gap 0;dense 1;");
        Due.is("of 99: none", less.holds(99), 0);
        Due.is("of 98: one", less.holds(98), 1);
        Due.is("the most", Due.told("length 9999;gap 0;dense 2;").holds(1), 9999);
        Due.is("the most of 8", Due.told("length 9999;gap 0;dense 9;").holds(8), 9999);
        Due.is("of 9 half", Due.told("length 9999;gap 0;dense 9;").holds(9), 4999);
        Due.is("a gap beyond length", Due.told("length 20;gap 99;").holds(1), 0);
        for (int n : new int[] {MIN, -1, 0, 100, MAX}) Due.is("holds(" + n + ")", x.holds(n), BAD);
        TwoReels used = States.full();
        Due.is("BLOCKS that are there do not matter", used.holds(1), 65 / 6);
        used.cut(0, 5);
        Due.is("length is that behind a CUT", used.holds(1), 60 / 6);
        used.cut(0, 1);
        Due.is("one PLACE less", used.holds(1), 9);
    }

    private static void mostOfSeveralTheLeast() {
        Due.topic("most: of several the least");
        // length, gap, dense; the n and what it holds, which another one (50, 95, 99, 80) holds, too.
        int[][] due = {{35, 0, 3, 20, 100}, {38, 0, 8, 15, 285}, {51, 0, 2, 33, 99}, {55, 0, 3, 32, 160}};
        for (int[] d : due) {
            TwoReels x = Due.told("length " + d[0] + ";gap " + d[1] + ";dense " + d[2] + ";");
            Due.is("n, length " + d[0], x.most(0), d[3]);
            Due.is("BYTES, length " + d[0], x.most(1), d[4]);
        }
        TwoReels none = Due.told("length 20;gap 20;");
        Due.is("no BLOCK has room: the least", none.most(0), 1);
        Due.is("no BYTES", none.most(1), 0);
        for (int length = 20; length < 400; length += 19) {
            TwoReels x = Due.told("length " + length + ";gap 2;dense 3;");
            int least = 1;
            for (int n = 2; n <= 99; n++) least = n * x.holds(n) > least * x.holds(least) ? n : least;
            Due.is("as holds() tells", x.most(0), least);
            Due.is("its BYTES", x.most(1), least * x.holds(least));
        }
    }

    private static void mostOf1And99() {
        Due.topic("most: n 1 to 99");
        TwoReels one = Due.told("length 20;gap 18;dense 1;");
        Due.is("1 alone has room", one.most(0), 1);
        Due.is("one BYTE", one.most(1), 1);
        TwoReels two = Due.told("length 20;gap 17;dense 1;");
        Due.is("2 have room", two.most(0), 2);
        Due.is("two BYTES", two.most(1), 2);
        TwoReels all = Due.told("length 100;gap 0;dense 1;");
        Due.is("99 of all", all.most(0), 99);
        Due.is("99 BYTES", all.most(1), 99);
        TwoReels less = Due.told("length 99;gap 0;dense 1;");
        Due.is("98", less.most(0), 98);
        TwoReels more = Due.told("length 101;gap 0;dense 1;");
        Due.is("no more than 99", more.most(0), 99);
        for (int what : new int[] {MIN, -1, 2, MAX}) Due.is("most(" + what + ")", one.most(what), BAD);
    }

    /** play 10, hitch 20, gap 0: BLOCKS of 2 take 20 TICKS each. */
    private static TwoReels deck() {
        return Due.told("gap 0;");
    }

    private static void streamed(TwoReels x, int n, int l, int every, int buffer, int ticks, int stops) {
        String told = "stream(" + n + ", " + l + ", " + every + ", " + buffer + ", ";
        Due.is(told + "0)", x.stream(n, l, every, buffer, 0), ticks);
        Due.is(told + "1)", x.stream(n, l, every, buffer, 1), stops);
    }

    private static void streamOfAHostNeverLate() {
        Due.topic("STREAM: never late");
        for (int buffer : new int[] {1, 2, 98, 99}) {
            streamed(deck(), 1, 2, 0, buffer, 20, 0);
            streamed(deck(), 99, 2, 0, buffer, 99 * 20, 0);
        }
        streamed(Due.told("gap 99;play 1;"), 3, 1, 0, 1, 300, 0);
        streamed(Due.told("gap 99;play 99;"), 99, 99, 0, 1, 99 * 99 * 198, 0);
    }

    private static void streamJustInTime() {
        Due.topic("STREAM: ready when the gap has passed");
        streamed(deck(), 5, 2, 20, 1, 100, 0);
        streamed(deck(), 2, 2, 20, 1, 40, 0);
        streamed(deck(), 2, 2, 21, 1, 60, 1);
        streamed(Due.told("gap 3;"), 2, 2, 50, 1, 100, 0);
        streamed(Due.told("gap 3;"), 2, 2, 51, 1, 120, 1);
        streamed(deck(), 3, 2, 19, 1, 60, 0);
    }

    private static void streamStopsAndWaitsLikewise() {
        Due.topic("STREAM: hitch, then it waits likewise");
        streamed(deck(), 5, 2, 100, 1, 420, 4);
        // It is ready within the hitch: no more waiting.
        streamed(deck(), 2, 2, 39, 1, 60, 1);
        streamed(deck(), 2, 2, 40, 1, 60, 1);
        streamed(deck(), 2, 2, 41, 1, 61, 1);
        streamed(Due.told("gap 0;hitch 0;"), 2, 2, 21, 1, 41, 1);
        streamed(Due.told("gap 0;hitch 999;"), 2, 2, 21, 1, 1039, 1);
        streamed(Due.told("gap 0;hitch 999;"), 3, 2, 21, 1, 1059, 1);
        // From TICK 100 on 0, 1; behind 140 a STOP, from 300 on 2, 3; behind 340 a STOP, at 400 all that are left: 4.
        streamed(deck(), 5, 2, 100, 2, 420, 2);
    }

    private static void streamWaitsForAFullBuffer() {
        Due.topic("STREAM: as many as the buffer has room for");
        streamed(deck(), 4, 2, 100, 3, 320, 1);
        streamed(deck(), 3, 2, 100, 2, 220, 1);
        streamed(deck(), 3, 2, 30, 2, 90, 0);
        streamed(deck(), 4, 2, 30, 2, 110, 0);
        streamed(deck(), 4, 2, 31, 2, 131, 1);
        streamed(deck(), 4, 2, 30, 3, 140, 0);
        streamed(deck(), 99, 1, 10, 1, 990, 0);
    }

    private static void streamWaitsForAllThatAreLeft() {
        Due.topic("STREAM: all that are left");
        for (int buffer : new int[] {5, 6, 50, 99}) streamed(deck(), 5, 2, 100, buffer, 500, 0);
        streamed(deck(), 5, 2, 100, 4, 420, 1);
        streamed(deck(), 99, 1, 100, 99, 9800 + 990, 0);
        streamed(deck(), 99, 1, 100, 98, 9700 + 990, 0);
    }

    private static void streamOfOne() {
        Due.topic("STREAM: one BLOCK");
        for (int every : new int[] {0, 1, 9999}) {
            for (int buffer : new int[] {1, 99}) streamed(deck(), 1, 1, every, buffer, 10, 0);
        }
    }

    private static void streamLeastAndGreatest() {
        Due.topic("STREAM: least and greatest");
        TwoReels x = Due.told("gap 99;play 99;hitch 999;");
        int each = 99 * 198;
        streamed(x, 99, 99, 9999, 99, 98 * 9999 + 99 * each, 0);
        streamed(x, 99, 99, 9999, 1, 99 * each, 0);
        streamed(Due.told("gap 0;play 1;hitch 0;"), 99, 1, 9999, 1, 98 * 9999 + 1, 98);
        streamed(Due.told("gap 0;play 1;hitch 999;"), 99, 1, 9999, 1, 98 * 9999 + 1, 98);
        streamed(Due.told("gap 0;play 1;hitch 999;"), 99, 1, 2, 1, 1 + 999 + 98, 1);
        int[][] bad = {
            {0, 1, 0, 1, 0}, {-1, 1, 0, 1, 0}, {MIN, 1, 0, 1, 0}, {100, 1, 0, 1, 0}, {MAX, 1, 0, 1, 0},
            {1, 0, 0, 1, 0}, {1, MIN, 0, 1, 0}, {1, 100, 0, 1, 0}, {1, MAX, 0, 1, 0},
            {1, 1, -1, 1, 0}, {1, 1, MIN, 1, 0}, {1, 1, 10000, 1, 0}, {1, 1, MAX, 1, 0},
            {1, 1, 0, 0, 0}, {1, 1, 0, MIN, 0}, {1, 1, 0, 100, 0}, {1, 1, 0, MAX, 0},
            {1, 1, 0, 1, -1}, {1, 1, 0, 1, 2}, {1, 1, 0, 1, MIN}, {1, 1, 0, 1, MAX}};
        for (int[] b : bad) Due.is("a number beyond", x.stream(b[0], b[1], b[2], b[3], b[4]), BAD);
    }

    private static void bufferOfTheFewestTicks() {
        Due.topic("buffer: the fewest TICKS, the least");
        TwoReels dear = Due.told("gap 0;hitch 999;");
        Due.is("a STOP is dear: 3", dear.buffer(4, 1, 20, 0), 3);
        Due.is("TICKS", dear.buffer(4, 1, 20, 1), 80);
        Due.is("a STOP is dear: all", dear.buffer(2, 1, 20, 0), 2);
        Due.is("TICKS", dear.buffer(2, 1, 20, 1), 40);
        TwoReels free = Due.told("gap 0;hitch 0;");
        Due.is("a STOP is free: 1", free.buffer(5, 1, 20, 0), 1);
        Due.is("TICKS", free.buffer(5, 1, 20, 1), 90);
        Due.is("never late: 1", dear.buffer(99, 1, 0, 0), 1);
        Due.is("TICKS", dear.buffer(99, 1, 0, 1), 990);
        for (int every : new int[] {10, 11, 15, 19, 21, 40}) {
            int least = 1;
            for (int b = 2; b <= 7; b++) {
                if (dear.stream(7, 1, every, b, 0) < dear.stream(7, 1, every, least, 0)) least = b;
            }
            Due.is("buffer(7, 1, " + every + ", 0)", dear.buffer(7, 1, every, 0), least);
            Due.is("TICKS", dear.buffer(7, 1, every, 1), dear.stream(7, 1, every, least, 0));
        }
    }

    private static void bufferFrom1ToN() {
        Due.topic("buffer: 1 to n");
        TwoReels x = Due.told("gap 0;hitch 999;");
        Due.is("of one BLOCK", x.buffer(1, 1, 9999, 0), 1);
        Due.is("TICKS", x.buffer(1, 1, 9999, 1), 10);
        // The last one alone would be late: with a buffer of n there is no STOP.
        Due.is("n of 99", x.buffer(99, 1, 1000, 0), leastBuffer(x, 99, 1, 1000));
        Due.is("TICKS", x.buffer(99, 1, 1000, 1), x.stream(99, 1, 1000, leastBuffer(x, 99, 1, 1000), 0));
        int[][] bad = {{0, 1, 0, 0}, {MIN, 1, 0, 0}, {100, 1, 0, 0}, {MAX, 1, 0, 0}, {1, 0, 0, 0}, {1, MIN, 0, 0},
            {1, 100, 0, 0}, {1, MAX, 0, 0}, {1, 1, -1, 0}, {1, 1, MIN, 0}, {1, 1, 10000, 0}, {1, 1, MAX, 0},
            {1, 1, 0, -1}, {1, 1, 0, 2}, {1, 1, 0, MIN}, {1, 1, 0, MAX}};
        for (int[] b : bad) Due.is("a number beyond", x.buffer(b[0], b[1], b[2], b[3]), BAD);
    }

    private static int leastBuffer(TwoReels x, int n, int l, int every) {
        int least = 1;
        int fewest = MAX;
        for (int b = 1; b <= n; b++) {
            int ticks = x.stream(n, l, every, b, 0);
            if (ticks < fewest) {
                fewest = ticks;
                least = b;
            }
        }
        return least;
    }
}
