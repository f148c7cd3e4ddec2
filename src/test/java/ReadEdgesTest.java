import java.util.Arrays;

/** What is READ, and in which ORDER (promises 21 to 27): the edges that the document names, a method a sentence. */
public final class ReadEdgesTest {
    private static final int BAD = TwoReels.BAD, STATE = TwoReels.STATE, NONE = TwoReels.NONE;
    private static final int MIN = Integer.MIN_VALUE, MAX = Integer.MAX_VALUE;
    private static final String TWELVE = "block 11 22 33 44 55 66 77 88 99 110 121 132;";

    public static void main(String[] args) {
        rightWhereNothingIsWrong();
        mendsOneBitOfAnyColumn();
        mendsOneBitOfTheRow();
        twoBitsAreLost();
        oneAlongNoneAcross();
        noneAlongTwoAcross();
        mendsByTheTrack();
        aDeadTrackAndAnotherOne();
        aDeadTrackInTheRow();
        rightWithADeadTrack();
        marksAreRight();
        gotFirstAndLast();
        gotOfALostOne();
        columnsAsTheyAre();
        stateOfEachBlock();
        stateOfNone();
        fooledIfNotLost();
        fooledByOneByteAlone();
        bestOfEachTrack();
        bestOfSeveralTheLeast();
        orderOfNoneAndOne();
        orderOfEight();
        orderOfMoreThanEight();
        orderOfBlocksThatAreNot();
        orderOfSeveralTheFirst();
        orderFromTheHead();
        orderFromTheEndOfEach();
        readsToTheEndOfTheLast();
        Due.close();
    }

    private static void bits(TwoReels x, int b, int[]... columnsAndTracks) {
        for (int[] c : columnsAndTracks) x.spoil(b, c[0], c[1]);
    }

    private static void rightWhereNothingIsWrong() {
        Due.topic("READ 0: nothing is wrong");
        for (int n = 1; n <= 12; n++) {
            TwoReels x = Due.told("block" + " 77".repeat(n) + ";");
            Due.is(n + " BYTES", x.check(0), 0);
            x.spoil(0, n - 1, 4);
            x.spoil(0, n - 1, 4);
            Due.is("turned and turned back", x.check(0), 0);
        }
        TwoReels x = States.full();
        for (int b = 0; b < 12; b++) Due.is("check(" + b + ")", x.check(b), 0);
        for (int b : new int[] {MIN, -1, 12, MAX}) Due.is("check(" + b + ")", x.check(b), BAD);
    }

    private static void mendsOneBitOfAnyColumn() {
        Due.topic("READ 1: one bit");
        for (int i = 0; i < 12; i++) {
            TwoReels x = Due.told("mark;" + TWELVE);
            for (int track = 0; track < 9; track++) {
                int column = x.spoil(1, i, track);
                Due.is("COLUMN " + i + ", track " + track, x.check(1), 1);
                Due.is("the BYTE of it", x.got(1, i), 11 * (i + 1));
                Due.is("another one", x.got(1, 11 - i), 11 * (12 - i));
                Due.is("COLUMN stays as it is", x.column(1, i), column);
                x.spoil(1, i, track);
            }
        }
    }

    private static void mendsOneBitOfTheRow() {
        Due.topic("READ 1: one bit of THE ROW");
        for (int n : new int[] {1, 2, 11, 12}) {
            TwoReels x = Due.told("block" + " 200".repeat(n) + ";");
            for (int track = 0; track < 9; track++) {
                x.spoil(0, n, track);
                Due.is("track " + track, x.check(0), 1);
                Due.is("nothing is turned", x.got(0, n - 1), 200);
                Due.is("the first BYTE", x.got(0, 0), 200);
                x.spoil(0, n, track);
            }
        }
    }

    private static void twoBitsAreLost() {
        Due.topic("READ 3: two bits");
        int[][][] pairs = {{{0, 0}, {1, 0}}, {{0, 0}, {0, 1}}, {{0, 0}, {1, 1}}, {{0, 0}, {2, 1}}, {{2, 7}, {2, 8}},
            {{0, 8}, {1, 8}}, {{0, 3}, {2, 4}}, {{1, 5}, {2, 5}}};
        for (int[][] pair : pairs) {
            TwoReels x = Due.told("block 1 2;");
            bits(x, 0, pair);
            Due.is("COLUMN, track " + Arrays.deepToString(pair), x.check(0), 3);
            Due.is("got(0, 0)", x.got(0, 0), NONE);
        }
        TwoReels x = Due.told("block 1 2 3;");
        bits(x, 0, new int[][] {{0, 4}, {1, 4}, {2, 4}});
        Due.is("three ALONG, one ACROSS", x.check(0), 3);
        bits(x, 0, new int[][] {{2, 4}, {3, 4}});
        Due.is("two ALONG, one ACROSS", x.check(0), 3);
        bits(x, 0, new int[][] {{1, 4}, {3, 4}, {0, 5}, {0, 6}});
        Due.is("one ALONG, three ACROSS", x.check(0), 3);
    }

    /** The bit and that of THE ROW are both wrong: they can not be told from a COLUMN alone. */
    private static void oneAlongNoneAcross() {
        Due.topic("READ 3: one ALONG, none ACROSS");
        for (int track = 0; track < 9; track++) {
            TwoReels x = Due.told("block 1 2;");
            bits(x, 0, new int[][] {{1, track}, {2, track}});
            Due.is("track " + track, x.check(0), 3);
            x.dead(track);
            Due.is("it is DEAD: turned, it is wrong ACROSS", x.check(0), 3);
            x.dead((track + 1) % 9);
            Due.is("another one is DEAD", x.check(0), 3);
        }
    }

    private static void noneAlongTwoAcross() {
        Due.topic("READ 3: none ALONG, two ACROSS");
        TwoReels x = Due.told("block 1 2;");
        bits(x, 0, new int[][] {{2, 0}, {2, 8}});
        Due.is("in THE ROW", x.check(0), 3);
        bits(x, 0, new int[][] {{2, 0}, {2, 8}, {0, 0}, {0, 8}});
        Due.is("in a COLUMN", x.check(0), 3);
        for (int track = 0; track < 9; track++) {
            x.dead(track);
            Due.is("track " + track + " is DEAD", x.check(0), 3);
        }
    }

    private static void mendsByTheTrack() {
        Due.topic("READ 2: the DEAD track");
        for (int track = 0; track < 9; track++) {
            TwoReels x = Due.told(TWELVE);
            x.dead(track);
            for (int i = 0; i < 12; i++) {
                x.spoil(0, i, track);
                Due.is(i + 1 + " bits of track " + track, x.check(0), 2);
            }
            for (int i = 0; i < 12; i++) Due.is("got(0, " + i + ")", x.got(0, i), 11 * (i + 1));
            Due.is("MENDED either way", x.state(2), 1);
            x.dead(NONE);
            Due.is("none is DEAD", x.check(0), 3);
        }
    }

    private static void aDeadTrackAndAnotherOne() {
        Due.topic("READ: a DEAD track, another one wrong");
        TwoReels x = Due.told("block 1 2 3;");
        x.spoil(0, 1, 5);
        for (int track = 0; track < 9; track++) {
            x.dead(track);
            Due.is("one bit, track " + track + " DEAD", x.check(0), track == 5 ? 2 : 3);
        }
        x.spoil(0, 2, 5);
        for (int track = 0; track < 9; track++) {
            x.dead(track);
            Due.is("two bits of a track are none ACROSS", x.check(0), 2);
            Due.is("its BYTES are turned in the DEAD track", x.got(0, 1), (2 ^ 32 ^ 1 << track) & 255);
        }
        Due.is("FOOLED", x.state(1), 1);
        x.dead(5);
        Due.is("but by its own track", x.state(1), 0);
        x.spoil(0, 0, 5);
        x.spoil(0, 0, 6);
        Due.is("another bit of a COLUMN", x.check(0), 3);
    }

    private static void aDeadTrackInTheRow() {
        Due.topic("READ: a DEAD track, THE ROW");
        TwoReels x = Due.told("block 1 2 3;");
        x.spoil(0, 3, 4);
        for (int track = 0; track < 9; track++) {
            x.dead(track);
            Due.is("nothing ALONG is turned, track " + track, x.check(0), 3);
        }
        x.dead(NONE);
        Due.is("none is DEAD", x.check(0), 1);
        bits(x, 0, new int[][] {{0, 4}, {1, 4}, {2, 4}, {3, 4}});
        x.dead(4);
        Due.is("of all BYTES, not of THE ROW", x.check(0), 2);
        x.spoil(0, 3, 4);
        Due.is("of THE ROW, too", x.check(0), 3);
    }

    private static void rightWithADeadTrack() {
        Due.topic("READ 0: with a DEAD track");
        TwoReels x = Due.told("block 1 2 3;mark;" + TWELVE);
        for (int track = 0; track < 9; track++) {
            x.dead(track);
            for (int b = 0; b < 3; b++) Due.is("check(" + b + "), track " + track, x.check(b), 0);
            Due.is("got(2, 11)", x.got(2, 11), 132);
        }
    }

    private static void marksAreRight() {
        Due.topic("READ: a MARK");
        // What the BLOCK had that was there ahead of the MARK is nothing of it.
        TwoReels x = Due.told("block 1 2;block 1 2;");
        bits(x, 0, new int[][] {{0, 0}, {0, 1}});
        bits(x, 1, new int[][] {{0, 0}});
        x.mark(0);
        x.mark(1);
        for (int track : new int[] {NONE, 0, 8}) {
            x.dead(track);
            Due.is("check(0)", x.check(0), 0);
            Due.is("check(1)", x.check(1), 0);
            for (int what = 0; what < 3; what++) Due.is("state(" + what + ")", x.state(what), 0);
        }
        Due.is("THE ROW", x.block(0, 3), 0);
        for (int i = -1; i < 3; i++) Due.is("got(0, " + i + ")", x.got(0, i), BAD);
        Due.is("best(1)", x.best(1), 0);
    }

    private static void gotFirstAndLast() {
        Due.topic("got: the first BYTE, the last one");
        TwoReels x = Due.told("block 0;" + TWELVE + "block 255 254;");
        Due.is("of one", x.got(0, 0), 0);
        Due.is("the first of twelve", x.got(1, 0), 11);
        Due.is("the last of twelve", x.got(1, 11), 132);
        Due.is("the first of two", x.got(2, 0), 255);
        Due.is("the last of two", x.got(2, 1), 254);
        int[] sizes = {1, 12, 2};
        for (int b = 0; b < 3; b++) {
            for (int i : new int[] {MIN, -1, sizes[b], sizes[b] + 1, MAX}) Due.is("BYTE " + i, x.got(b, i), BAD);
        }
        for (int b : new int[] {MIN, -1, 3, MAX}) Due.is("got(" + b + ", 0)", x.got(b, 0), BAD);
        x.spoil(0, 0, 8);
        Due.is("bit 8 is no bit of the BYTE", x.got(0, 0), 0);
    }

    private static void gotOfALostOne() {
        Due.topic("got: NONE of a LOST one");
        TwoReels x = Due.told("block 1 2;block 3 4;");
        bits(x, 0, new int[][] {{0, 0}, {1, 1}});
        for (int i = 0; i < 2; i++) Due.is("got(0, " + i + ")", x.got(0, i), NONE);
        for (int i : new int[] {MIN, -1, 2, MAX}) Due.is("got(0, " + i + ")", x.got(0, i), BAD);
        Due.is("of the next one", x.got(1, 1), 4);
        x.spoil(0, 1, 1);
        Due.is("not LOST any more", x.got(0, 0), 1);
    }

    private static void columnsAsTheyAre() {
        Due.topic("column: 0 to 511");
        TwoReels x = Due.told("block 255 255;" + TWELVE);
        Due.is("the greatest", x.column(0, 0), 511);
        Due.is("THE ROW, the least", x.column(0, 2), 0);
        for (int track = 0; track < 9; track++) {
            x.spoil(0, 1, track);
            x.spoil(0, 2, track);
        }
        Due.is("all turned", x.column(0, 1), 0);
        Due.is("THE ROW, all turned", x.column(0, 2), 511);
        Due.is("the last BYTE of twelve", x.column(1, 11), 256 + 132);
        for (int i : new int[] {MIN, -1, 13, MAX}) Due.is("column(1, " + i + ")", x.column(1, i), BAD);
        for (int b : new int[] {MIN, -1, 2, MAX}) Due.is("column(" + b + ", 0)", x.column(b, 0), BAD);
        Due.holds("THE ROW of twelve", x.column(1, 12) == x.block(1, 3) && x.column(1, 12) >= 0);
    }

    private static void stateOfEachBlock() {
        Due.topic("state: bits of each BLOCK");
        for (int b = 0; b < 12; b++) {
            TwoReels x = Due.told("block 1 2;".repeat(12));
            x.spoil(b, 1, 7);
            int[] mended = {0, 0, 1 << b};
            for (int what = 0; what < 3; what++) Due.is("MENDED " + b + ", " + what, x.state(what), mended[what]);
            x.spoil(b, 0, 6);
            int[] lost = {1 << b, 0, 0};
            for (int what = 0; what < 3; what++) Due.is("LOST " + b + ", " + what, x.state(what), lost[what]);
            bits(x, b, new int[][] {{0, 7}, {1, 6}});
            int[] fooled = {0, 1 << b, 0};
            for (int what = 0; what < 3; what++) Due.is("FOOLED " + b + ", " + what, x.state(what), fooled[what]);
        }
        TwoReels x = Due.told("block 1 2;".repeat(12));
        for (int b = 0; b < 12; b++) bits(x, b, new int[][] {{0, 0}, {1, 1}});
        Due.is("all are LOST", x.state(0), 4095);
        x.dead(2);
        for (int b = 0; b < 12; b++) bits(x, b, new int[][] {{1, 1}, {1, 0}});
        Due.is("all are MENDED BY THE TRACK", x.state(2), 4095);
        Due.is("all are FOOLED", x.state(1), 4095);
    }

    private static void stateOfNone() {
        Due.topic("state: none, no such number");
        for (TwoReels x : new TwoReels[] {new TwoReels(), Due.told("mark;".repeat(12)), States.full()}) {
            for (int what = 0; what < 3; what++) Due.is("state(" + what + ")", x.state(what), 0);
            for (int what : new int[] {MIN, -1, 3, MAX}) Due.is("state(" + what + ")", x.state(what), BAD);
        }
        TwoReels x = Due.told("block 1 2;block 1 2;");
        for (int b = 0; b < 2; b++) bits(x, b, new int[][] {{0, 0}, {1, 1}});
        x.cut(0, 7);
        Due.is("BLOCK 1 is BLOCK 0 behind a CUT", x.state(0), 1);
        x.cut(0, 8);
        Due.is("none is left", x.state(0), 0);
    }

    private static void fooledIfNotLost() {
        Due.topic("FOOLED: it is not LOST");
        TwoReels x = Due.told("block 1 2;");
        bits(x, 0, new int[][] {{0, 3}, {0, 4}, {1, 3}, {1, 4}});
        Due.is("RIGHT", x.check(0), 0);
        Due.is("FOOLED", x.state(1), 1);
        Due.is("not what was written", x.got(0, 0), 1 ^ 24);
        x.spoil(0, 0, 0);
        Due.is("MENDED", x.check(0), 1);
        Due.is("FOOLED still", x.state(1), 1);
        x.spoil(0, 1, 7);
        Due.is("LOST", x.state(0), 1);
        Due.is("FOOLED no more", x.state(1), 0);
    }

    private static void fooledByOneByteAlone() {
        Due.topic("FOOLED: some BYTE");
        for (int i = 0; i < 12; i++) {
            TwoReels x = Due.told("mark;" + TWELVE);
            bits(x, 1, new int[][] {{i, 1}, {i, 2}, {12, 1}, {12, 2}});
            Due.is("BYTE " + i, x.state(1), 2);
            Due.is("RIGHT", x.check(1), 0);
            bits(x, 1, new int[][] {{i, 1}, {i, 2}, {12, 1}, {12, 2}});
            Due.is("turned back", x.state(1), 0);
        }
        TwoReels x = Due.told("block 1 2;");
        x.dead(8);
        bits(x, 0, new int[][] {{0, 8}, {1, 8}});
        Due.is("the bit along is of no BYTE", x.state(1), 0);
        Due.is("it is MENDED", x.state(2), 1);
    }

    private static void bestOfEachTrack() {
        Due.topic("best: track 0 to 8");
        for (int track = 0; track < 9; track++) {
            TwoReels x = Due.told("block 1 2 3;".repeat(12));
            for (int b = 0; b < 12; b++) x.spoil(b, b % 3, track);
            for (int dead : new int[] {NONE, 0, 8}) {
                x.dead(dead);
                Due.is("best(0)", x.best(0), track);
                Due.is("best(1)", x.best(1), 0);
                Due.is("the DEAD one stays", x.now(3), dead);
            }
        }
        for (int what : new int[] {MIN, -1, 2, MAX}) Due.is("best(" + what + ")", new TwoReels().best(what), BAD);
    }

    private static void bestOfSeveralTheLeast() {
        Due.topic("best: of several the least");
        for (TwoReels x : new TwoReels[] {new TwoReels(), Due.told("mark;"), States.full()}) {
            Due.is("nothing is wrong", x.best(0), 0);
            Due.is("none is LOST", x.best(1), 0);
        }
        TwoReels x = Due.told("block 1 2 3;".repeat(12));
        for (int b = 0; b < 12; b++) bits(x, b, new int[][] {{0, 0}, {0, 1}});
        Due.is("all are LOST by each", x.best(1), 12);
        Due.is("track 0", x.best(0), 0);
        TwoReels y = Due.told("block 1 2 3;block 1 2 3;block 1 2 3;");
        y.spoil(0, 0, 7);
        y.spoil(1, 0, 4);
        Due.is("4 and 7 lose one each", y.best(0), 4);
        Due.is("one", y.best(1), 1);
        y.spoil(2, 0, 7);
        Due.is("7 loses fewer", y.best(0), 7);
        Due.is("one still", y.best(1), 1);
    }

    private static void orderOfNoneAndOne() {
        Due.topic("order: of none, of one");
        TwoReels x = Due.told(States.FOUR);
        Due.is("order(0, 0)", x.order(0, 0), 0);
        Due.is("reads(0)", x.reads(0), 0);
        for (int what = 10; what < 18; what++) Due.is("order(0, " + what + ")", x.order(0, what), BAD);
        for (int b = 0; b < 4; b++) {
            Due.is("TICKS of BLOCK " + b, x.order(1 << b, 0), x.ticks(0, x.block(b, 0), 2) + 10 * x.block(b, 1));
            Due.is("it is the first one", x.order(1 << b, 10), b);
            for (int no : new int[] {MIN, -1, 1, 9, 11, 17, 18, MAX}) Due.is("order, " + no, x.order(1 << b, no), BAD);
        }
        TwoReels twelve = Due.told("mark;".repeat(12));
        Due.is("the last BLOCK alone", twelve.order(1 << 11, 10), 11);
        Due.is("of no BLOCKS", new TwoReels().order(0, 0), 0);
        Due.is("of no BLOCKS one", new TwoReels().order(1, 0), BAD);
    }

    private static void orderOfEight() {
        Due.topic("order: of 8");
        TwoReels x = Due.told("ramp 0;play 99;wind 1;hub 99;thick 1;gap 70;length 900;" + "mark;".repeat(12));
        for (int some : new int[] {255, 4095 - 15, 0xf0f}) {
            int met = 0;
            for (int i = 0; i < 8; i++) met |= 1 << x.order(some, 10 + i);
            Due.is("each of them once", met, some);
            Due.is("no ninth", x.order(some, 18), BAD);
            Due.is("no first but 10", x.order(some, 9), BAD);
            Due.holds("TICKS", x.order(some, 0) >= 8 * 99);
        }
        Due.is("THE HEAD stays", x.now(0), 0);
        Due.is("TICKS stay", x.now(1), 0);
        Due.holds("they are read", x.reads(4095 - 15) > 0);
    }

    private static void orderOfMoreThanEight() {
        Due.topic("order: of more than 8");
        TwoReels x = Due.told("mark;".repeat(12));
        for (int some : new int[] {511, 4095, 0xff8, 0x7ff}) {
            Due.is("order, 0", x.order(some, 0), STATE);
            Due.is("order, 10", x.order(some, 10), STATE);
            Due.is("order, 17", x.order(some, 17), STATE);
            Due.is("order, 18", x.order(some, 18), BAD);
            Due.is("order, 1", x.order(some, 1), BAD);
            Due.is("reads", x.reads(some), STATE);
        }
    }

    private static void orderOfBlocksThatAreNot() {
        Due.topic("order: of a BLOCK that there is not");
        for (int count = 0; count <= 12; count++) {
            TwoReels x = Due.told("mark;".repeat(count));
            for (int bit = count; bit < 32; bit += bit < 13 ? 1 : 6) {
                Due.is("order of BLOCK " + bit, x.order(1 << bit, 0), BAD);
                Due.is("reads of BLOCK " + bit, x.reads(1 << bit), BAD);
            }
            for (int some : new int[] {-1, MIN, MAX, 1 << count}) {
                Due.is("order(" + some + ", 10)", x.order(some, 10), BAD);
                Due.is("reads(" + some + ")", x.reads(some), BAD);
            }
        }
        TwoReels lost = Due.told("mark;".repeat(12));
        lost.mark(3);
        Due.is("those that are lost", lost.order(16, 0), BAD);
        Due.is("the last one that is left", lost.order(8, 10), 3);
    }

    private static void orderOfSeveralTheFirst() {
        Due.topic("order: of several the first by BLOCKS");
        // No ramp and no TURN: every ORDER takes what the BLOCKS take.
        TwoReels x = Due.told("ramp 0;hub 99;length 99;gap 1;" + "mark;".repeat(12));
        for (int place : new int[] {0, 9, 24, 98}) {
            x.go(place);
            for (int some : new int[] {255, 4095 - 15, 0x555, 0xa00, 0x801}) {
                int i = 0;
                for (int b = 0; b < 12; b++) {
                    if ((some >> b & 1) == 1) Due.is("the " + i + "th of " + some, x.order(some, 10 + i++), b);
                }
                Due.is("TICKS", x.order(some, 0), 10 * Integer.bitCount(some));
            }
        }
    }

    /** MARKS at 9, 19, 29; a TURN is so dear that all is PLAYED: a TICK for the ramp, one for each PLACE. */
    private static TwoReels dearTurns() {
        return Due.told("length 40;ramp 1;play 1;wind 99;hub 5;thick 1;gap 9;mark;mark;mark;");
    }

    private static void orderFromTheHead() {
        Due.topic("order: from THE HEAD on");
        TwoReels x = dearTurns();
        for (int i = 0; i < 3; i++) Due.is("from 0, the " + i + "th", x.order(7, 10 + i), i);
        Due.is("TICKS from 0", x.order(7, 0), 11 + 11 + 11);
        x.go(30);
        for (int i = 0; i < 3; i++) Due.is("from 30, the " + i + "th", x.order(7, 10 + i), 2 - i);
        Due.is("TICKS from 30", x.order(7, 0), 3 + 13 + 13);
        x.go(29);
        for (int i = 0; i < 3; i++) Due.is("from 29, the " + i + "th", x.order(7, 10 + i), 2 - i);
        Due.is("TICKS from 29: the first one begins here", x.order(7, 0), 1 + 13 + 13);
        x.go(19);
        for (int i = 0; i < 3; i++) Due.is("from 19, the " + i + "th", x.order(7, 10 + i), i);
        Due.is("TICKS from 19: not the nearest one first", x.order(7, 0), 12 + 11 + 11);
        x.go(40);
        Due.is("two of them", x.order(5, 10), 2);
        Due.is("TICKS", x.order(5, 0), 13 + 23);
    }

    /** From THE HEAD the BLOCKS that are left would be read in another ORDER than from the end of the one before. */
    private static void orderFromTheEndOfEach() {
        Due.topic("order: from the end of the one before");
        TwoReels x = Due.told("length 60;ramp 1;play 1;wind 99;hub 5;thick 1;gap 0;dense 1;"
            + "block 1 2 3 4 5 6 7 8 9;block 1 2 3;mark;");
        x.go(18);
        for (int i = 0; i < 3; i++) Due.is("no gap, the " + i + "th", x.order(7, 10 + i), i);
        Due.is("TICKS: to BLOCK 0, then they follow", x.order(7, 0), 19 + 10 + 4 + 1);
        TwoReels y = Due.told("length 60;ramp 1;play 1;wind 99;hub 5;thick 1;gap 3;dense 1;mark;block 1 2 3;mark;");
        y.go(18);
        for (int i = 0; i < 3; i++) Due.is("gap 3, the " + i + "th", y.order(7, 10 + i), 2 - i);
        Due.is("TICKS: to BLOCK 1 it is WOUND", y.order(7, 0), 6 + 6 + 10);
    }

    private static void readsToTheEndOfTheLast() {
        Due.topic("reads: to the end of the last one");
        TwoReels x = dearTurns();
        Due.is("reads(7)", x.reads(7), 33);
        Due.is("THE HEAD", x.now(0), 30);
        Due.is("TICKS so far", x.now(1), 33);
        Due.is("back again", x.reads(7), 29);
        Due.is("THE HEAD is behind BLOCK 0", x.now(0), 10);
        Due.is("TICKS so far", x.now(1), 62);
        for (int place : new int[] {40, 0, 25, 10}) {
            x.go(place);
            int before = x.now(1);
            Due.is("none", x.reads(0), 0);
            Due.is("THE HEAD stays", x.now(0), place);
            Due.is("TICKS stay", x.now(1), before);
        }
        Due.is("BLOCK 0 anew", x.reads(1), 3);
        TwoReels last = Due.told("length 20;gap 19;mark;");
        last.reads(1);
        Due.is("the end is length", last.now(0), 20);
    }
}
