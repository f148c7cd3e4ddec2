/** BLOCKS and what is WRITTEN (promises 14 to 20): the edges that the document names, a method a sentence. */
public final class BlockEdgesTest {
    private static final int BAD = TwoReels.BAD, STATE = TwoReels.STATE, FULL = TwoReels.FULL, NONE = TwoReels.NONE;
    private static final int MIN = Integer.MIN_VALUE, MAX = Integer.MAX_VALUE;

    public static void main(String[] args) {
        onesAreOddInNumber();
        theRowOfEachTrack();
        asLongAsItsColumns();
        theFirstOneBeginsAtGap();
        eachNextOneAGapBehind();
        blocksOfNone();
        blockAtItsPlaces();
        blockAtTheEnds();
        typesEachByte();
        writesTheFirstAndTheLast();
        writesUpToLength();
        writesAndBlocksBehindAreLost();
        writesBehindTheBlockAhead();
        writesFromWhereTheHeadIs();
        whatWasTypedIsNoMore();
        marksTheFirstAndTheLast();
        marksUpToLength();
        marksLeaveWhatIsTyped();
        spoilsEachBit();
        spoilsNothingElse();
        deadTracks();
        Due.close();
    }

    private static void onesAreOddInNumber() {
        Due.topic("COLUMNS: each of 256 BYTES");
        TwoReels x = new TwoReels();
        for (int v = 0; v < 256; v++) {
            if (v % 64 == 0) x = new TwoReels();
            x.type(v);
            x.write(0);
            int ones = 0;
            for (int bit = 0; bit < 8; bit++) ones += v >> bit & 1;
            Due.is("COLUMN of " + v, x.column(0, 0), ones % 2 == 0 ? v + 256 : v);
            Due.is("THE ROW of it alone", x.block(0, 3), ones % 2 == 0 ? v + 256 : v);
        }
    }

    private static void theRowOfEachTrack() {
        Due.topic("THE ROW: of each track");
        for (int n = 1; n <= 12; n++) {
            TwoReels x = Due.told("block" + " 255".repeat(n) + ";block" + " 0".repeat(n) + ";");
            Due.is("THE ROW of " + n + " times 255", x.block(0, 3), n % 2 == 0 ? 0 : 511);
            Due.is("it is the last COLUMN", x.column(0, n), n % 2 == 0 ? 0 : 511);
            Due.is("THE ROW of " + n + " times 0", x.block(1, 3), n % 2 == 0 ? 0 : 256);
        }
        Due.is("of all tracks but the last", Due.told("block 127 128;").block(0, 3), 255);
        TwoReels x = Due.told("block 1 2;");
        x.spoil(0, 0, 0);
        Due.is("it is as it was written", x.block(0, 3), 3);
        x.spoil(0, 2, 8);
        Due.is("and then as it is now", x.block(0, 3), 259);
        Due.is("a MARK has none", Due.told("mark;").block(0, 3), 0);
    }

    private static void asLongAsItsColumns() {
        Due.topic("BLOCK: as long as its COLUMNS");
        for (int dense = 1; dense <= 9; dense++) {
            for (int n = 1; n <= 12; n++) {
                TwoReels x = Due.told("dense " + dense + ";block" + " 7".repeat(n) + ";mark;");
                int length = 0;
                while (length * dense < n + 1) length++;
                Due.is(n + " BYTES, dense " + dense, x.block(0, 1), length);
                Due.is("the end", x.block(0, 4), 6 + length);
                Due.is("a MARK behind it", x.block(1, 0), 12 + length);
                Due.is("a MARK", x.block(1, 1), 1);
                Due.is("its end", x.block(1, 4), 13 + length);
            }
        }
    }

    private static void theFirstOneBeginsAtGap() {
        Due.topic("BLOCK 0: at gap");
        for (int gap : new int[] {0, 1, 98, 99}) {
            Due.is("told", Due.told("gap " + gap + ";mark;").block(0, 0), gap);
            TwoReels x = Due.told("gap " + gap + ";");
            x.mark(0);
            Due.is("WRITTEN", x.block(0, 0), gap);
        }
    }

    private static void eachNextOneAGapBehind() {
        Due.topic("BLOCKS: one gap behind");
        for (int gap : new int[] {0, 1, 74, 75}) {
            TwoReels x = Due.told("gap " + gap + ";dense 9;" + "mark;block 1 2 3 4 5 6 7 8 9;".repeat(6));
            int place = gap;
            for (int b = 0; b < 12; b++) {
                Due.is("BLOCK " + b, x.block(b, 0), place);
                place += b % 2 == 0 ? 1 : 2;
                Due.is("its end", x.block(b, 4), place);
                place += gap;
            }
        }
    }

    private static void blocksOfNone() {
        Due.topic("no BLOCKS");
        for (TwoReels x : new TwoReels[] {new TwoReels(), Due.told("length 20;"), Due.told("")}) {
            for (int b : new int[] {MIN, -1, 0, 1, 11, 12, MAX}) {
                for (int what = 0; what < 5; what++) Due.is("block(" + b + ", " + what + ")", x.block(b, what), BAD);
                Due.is("spoil(" + b + ")", x.spoil(b, 0, 0), BAD);
            }
            Due.is("blockAt(0)", x.blockAt(0), NONE);
            Due.is("blockAt(20)", x.blockAt(20), NONE);
            Due.is("write(0)", x.write(0), STATE);
            Due.is("mark(1)", x.mark(1), BAD);
        }
    }

    private static void blockAtItsPlaces() {
        Due.topic("blockAt: its PLACES");
        TwoReels x = Due.told("length 90;gap 2;dense 1;" + "mark;block 1 2 3;".repeat(6));
        for (int b = 0; b < 12; b++) {
            int begin = x.block(b, 0);
            int end = x.block(b, 4);
            Due.is("ahead of BLOCK " + b, x.blockAt(begin - 1), NONE);
            Due.is("its first PLACE", x.blockAt(begin), b);
            Due.is("its last PLACE", x.blockAt(end - 1), b);
            Due.is("its end", x.blockAt(end), NONE);
        }
        TwoReels close = Due.told("gap 0;mark;mark;block 1;");
        for (int place = 0; place < 3; place++) Due.is("no gap: PLACE " + place, close.blockAt(place), place);
        Due.is("behind all", close.blockAt(3), NONE);
        close.mark(1);
        Due.is("a BLOCK that is lost has no PLACE", close.blockAt(2), NONE);
        close.cut(0, 1);
        Due.is("nearer by a CUT", close.blockAt(0), 0);
        Due.is("where it was", close.blockAt(1), NONE);
    }

    private static void blockAtTheEnds() {
        Due.topic("blockAt: the first PLACE and the last");
        TwoReels x = Due.told("length 20;gap 0;dense 1;mark;block" + " 0".repeat(12) + ";block 1 2 3 4 5;");
        Due.is("PLACE 0", x.blockAt(0), 0);
        Due.is("PLACE 19", x.blockAt(19), 2);
        Due.is("PLACE 20 is behind the BLOCK that ends there", x.blockAt(20), NONE);
        for (int place : new int[] {MIN, -1, 21, MAX}) Due.is("blockAt(" + place + ")", x.blockAt(place), BAD);
    }

    private static void typesEachByte() {
        Due.topic("type: 0 to 255, 12 at most");
        TwoReels x = new TwoReels();
        int[] bytes = {0, 255, 1, 254, 128, 127, 0, 0, 255, 64, 32, 200};
        for (int i = 0; i < 12; i++) {
            for (int v : new int[] {MIN, -256, -1, 256, 257, MAX}) Due.is("type(" + v + ")", x.type(v), BAD);
            Due.is("BYTE " + i, x.type(bytes[i]), i + 1);
        }
        Due.is("the 13th", x.type(0), FULL);
        Due.is("the 13th, 255", x.type(255), FULL);
        x.write(0);
        for (int i = 0; i < 12; i++) Due.is("got(0, " + i + ")", x.got(0, i), bytes[i]);
        Due.is("the first anew", x.type(9), 1);
    }

    private static void writesTheFirstAndTheLast() {
        Due.topic("write: BLOCK 0 to 11");
        TwoReels x = new TwoReels();
        for (int k = 0; k < 12; k++) {
            Due.is("nothing is typed", x.write(k), STATE);
            x.type(k);
            for (int no : new int[] {MIN, -1, k + 1, 12, 13, MAX}) Due.is("write(" + no + ")", x.write(no), BAD);
            Due.is("write(" + k + ")", x.write(k), x.ticks(k == 0 ? 0 : 7 * k, 7 * k + 6, 2) + 10);
            Due.is("how many there are", x.count(0), k + 1);
            Due.is("where it begins", x.block(k, 0), 7 * k + 6);
            Due.is("its BYTE", x.got(k, 0), k);
        }
        Due.is("k is 12, nothing is typed", x.write(12), STATE);
        x.type(1);
        Due.is("k is 12", x.write(12), FULL);
        Due.is("k is 13", x.write(13), BAD);
        for (int k = 11; k >= 0; k--) {
            if (x.now(4) == 0) x.type(100 + k);
            Due.holds("anew as " + k, x.write(k) > 0);
            Due.is("how many there are", x.count(0), k + 1);
        }
    }

    private static void writesUpToLength() {
        Due.topic("write: up to length");
        for (int room = 1; room <= 6; room++) {
            TwoReels x = Due.told("length 30;gap " + (30 - room) + ";dense 2;");
            for (int i = 0; i < 2 * room - 1; i++) x.type(i);
            Due.holds("just to length " + room, x.write(0) > 0);
            Due.is("THE HEAD is at length", x.now(0), 30);
            Due.is("no PLACE behind it", x.now(5), 0);
            TwoReels y = Due.told("length 30;gap " + (30 - room) + ";dense 2;");
            for (int i = 0; i < 2 * room; i++) y.type(i);
            Due.is("one PLACE more", y.write(0), FULL);
        }
        TwoReels none = Due.told("length 20;gap 20;");
        none.type(1);
        Due.is("it begins at length", none.write(0), FULL);
        TwoReels far = Due.told("length 20;gap 99;");
        far.type(1);
        Due.is("it begins beyond length", far.write(0), FULL);
        Due.is("what is typed stays", far.now(4), 1);
        Due.is("THE HEAD stays", far.now(0), 0);
    }

    private static void writesAndBlocksBehindAreLost() {
        Due.topic("write: BLOCKS from k on are lost");
        for (int k = 0; k < 12; k++) {
            TwoReels x = Due.told("mark;block 7 8;".repeat(6));
            for (int b = 1; b < 12; b += 2) {
                x.spoil(b, 0, 0);
                if (b % 4 == 1) x.spoil(b, 1, 1);
            }
            x.type(70 + k);
            x.write(k);
            Due.is("how many there are", x.count(0), k + 1);
            Due.is("MARKS", x.count(1), (k + 1) / 2);
            Due.is("BYTES", x.count(2), k / 2 * 2 + 1);
            Due.is("LOST are of those that are there", x.state(0), 0x222 & (1 << k) - 1);
            Due.is("MENDED are of those that are there", x.state(2), 0x888 & (1 << k) - 1);
            Due.is("check(" + k + ")", x.check(k), 0);
            Due.is("got(" + k + ", 0)", x.got(k, 0), 70 + k);
            Due.is("behind it", x.block(k + 1, 0), BAD);
            Due.is("where there was one", x.blockAt(x.block(k, 4) + 6), NONE);
            Due.is("none is FOOLED", x.state(1), 0);
        }
    }

    private static void writesBehindTheBlockAhead() {
        Due.topic("write: gap behind the BLOCK ahead");
        TwoReels x = Due.told(States.FOUR);
        x.cut(0, 4);
        x.type(1);
        Due.is("behind a CUT, k 1: TICKS", x.write(1), x.ticks(0, 6, 2) + 10);
        Due.is("not where one that is lost began", x.block(1, 0), 6);
        x.cut(3, 6);
        Due.is("BLOCK 1 is a PLACE behind BLOCK 0", x.block(1, 0) - x.block(0, 4), 1);
        x.mark(2);
        Due.is("BLOCK 2 is gap behind BLOCK 1", x.block(2, 0) - x.block(1, 4), 4);
        x.mark(1);
        Due.is("BLOCK 1 then, too", x.block(1, 0) - x.block(0, 4), 4);
        x.mark(0);
        Due.is("BLOCK 0 at gap", x.block(0, 0), 4);
        TwoReels lost = Due.told(States.FOUR);
        lost.cut(0, 20);
        Due.is("BLOCK 3 is BLOCK 0, at 0", lost.block(0, 0), 0);
        lost.mark(1);
        Due.is("gap behind it", lost.block(1, 0), 6);
        lost.mark(0);
        Due.is("BLOCK 0 at gap, not at 0", lost.block(0, 0), 4);
    }

    private static void writesFromWhereTheHeadIs() {
        Due.topic("write: SOONER, then PLAYED without ramp");
        int[] heads = {0, 4, 6, 200};
        int[] due = {6 + 10, 10, 6 + 10, 56 + 10};
        for (int i = 0; i < heads.length; i++) {
            TwoReels x = Due.told(States.SMALL);
            x.go(heads[i]);
            int before = x.now(1);
            x.type(1);
            Due.is("from " + heads[i], x.write(0), due[i]);
            Due.is("THE HEAD is at its end", x.now(0), 5);
            Due.is("TICKS so far", x.now(1), before + due[i]);
        }
        TwoReels y = Due.told("dense 1;gap 0;play 99;ramp 0;");
        for (int i = 0; i < 12; i++) y.type(i);
        Due.is("13 PLACES at 99, no ramp", y.write(0), 13 * 99);
        TwoReels z = Due.told("dense 1;gap 0;ramp 99;");
        z.mark(0);
        Due.is("THE HEAD is where the next one begins", z.mark(1), 10);
    }

    private static void whatWasTypedIsNoMore() {
        Due.topic("write: nothing is typed then");
        TwoReels x = new TwoReels();
        for (int i = 0; i < 12; i++) x.type(200 + i);
        x.write(0);
        Due.is("now(4)", x.now(4), 0);
        Due.is("write(1)", x.write(1), STATE);
        x.type(5);
        x.write(1);
        Due.is("one BYTE alone", x.block(1, 2), 1);
        Due.is("it", x.got(1, 0), 5);
        Due.is("THE ROW is of it alone", x.column(1, 1), 256 + 5);
        Due.is("no COLUMN behind THE ROW", x.column(1, 2), BAD);
        Due.is("the one ahead", x.got(0, 11), 211);
    }

    private static void marksTheFirstAndTheLast() {
        Due.topic("mark: BLOCK 0 to 11");
        TwoReels x = new TwoReels();
        for (int k = 0; k < 12; k++) {
            for (int no : new int[] {MIN, -1, k + 1, 13, MAX}) Due.is("mark(" + no + ")", x.mark(no), BAD);
            Due.is("mark(" + k + ")", x.mark(k), x.ticks(7 * k, 7 * k + 6, 2) + 10);
            Due.is("how many there are", x.count(1), k + 1);
            Due.is("no BYTES", x.block(k, 2), 0);
            Due.is("THE HEAD is at its end", x.now(0), 7 * k + 7);
        }
        Due.is("k is 12", x.mark(12), FULL);
        Due.is("k is 13", x.mark(13), BAD);
        Due.holds("k is 11, anew", x.mark(11) > 0);
        Due.holds("k is 0, anew", x.mark(0) > 0);
        Due.is("BLOCKS from k on are lost", x.count(0), 1);
    }

    private static void marksUpToLength() {
        Due.topic("mark: up to length");
        TwoReels x = Due.told("length 20;gap 4;");
        for (int k = 0; k < 4; k++) Due.holds("mark(" + k + ")", x.mark(k) > 0);
        Due.is("just to length", x.now(5), 0);
        Due.is("THE HEAD is at length", x.now(0), 20);
        Due.is("beyond length", x.mark(4), FULL);
        Due.is("behind those there are", x.mark(5), BAD);
        for (int dense = 1; dense <= 9; dense++) {
            TwoReels last = Due.told("length 99;gap 98;dense " + dense + ";");
            Due.holds("the last PLACE, dense " + dense, last.mark(0) > 0);
        }
        Due.is("it begins at length", Due.told("length 99;gap 99;").mark(0), FULL);
        Due.is("it begins beyond length", Due.told("length 98;gap 99;").mark(0), FULL);
        TwoReels shorter = Due.told("length 21;gap 4;mark;mark;mark;mark;");
        shorter.cut(20, 21);
        Due.is("beyond length behind a CUT", shorter.mark(4), FULL);
        Due.holds("up to it", shorter.mark(3) > 0);
    }

    private static void marksLeaveWhatIsTyped() {
        Due.topic("mark: what is typed stays");
        TwoReels x = new TwoReels();
        x.type(7);
        x.type(8);
        x.mark(0);
        Due.is("now(4)", x.now(4), 2);
        x.mark(0);
        x.write(1);
        Due.is("the first BYTE", x.got(1, 0), 7);
        Due.is("the second one", x.got(1, 1), 8);
        Due.is("the MARK has none of them", x.block(0, 2), 0);
        Due.holds("nothing need be typed", x.mark(0) > 0);
    }

    private static void spoilsEachBit() {
        Due.topic("spoil: each COLUMN, each track");
        TwoReels x = Due.told("mark;block 1 2 3 4 5 6 7 8 9 10 11 12;block 0;");
        for (int b = 1; b < 3; b++) {
            int row = b == 1 ? 12 : 1;
            for (int i = 0; i <= row; i += b == 1 ? 6 : 1) {
                for (int track = 0; track < 9; track++) {
                    int was = x.column(b, i);
                    Due.is("turned", x.spoil(b, i, track), was ^ 1 << track);
                    Due.is("COLUMN then", x.column(b, i), was ^ 1 << track);
                    Due.is("turned back", x.spoil(b, i, track), was);
                }
                Due.is("track -1", x.spoil(b, i, -1), BAD);
                Due.is("track 9", x.spoil(b, i, 9), BAD);
            }
            for (int i : new int[] {MIN, -1, row + 1, MAX}) Due.is("COLUMN " + i, x.spoil(b, i, 0), BAD);
        }
        for (int i = -1; i < 14; i++) Due.is("a MARK", x.spoil(0, i, 0), BAD);
    }

    private static void spoilsNothingElse() {
        Due.topic("spoil: no other COLUMN");
        String twelve = "block 1 2 3 4 5 6 7 8 9 10 11 12;";
        TwoReels x = Due.told(twelve.repeat(3));
        TwoReels same = Due.told(twelve.repeat(3));
        x.spoil(1, 0, 8);
        x.spoil(1, 12, 0);
        for (int b = 0; b < 3; b++) {
            for (int i = 0; i <= 12; i++) {
                int turned = b != 1 ? 0 : i == 0 ? 256 : i == 12 ? 1 : 0;
                Due.is("column(" + b + ", " + i + ")", x.column(b, i), same.column(b, i) ^ turned);
            }
        }
    }

    private static void deadTracks() {
        Due.topic("dead: 0 to 8, NONE");
        TwoReels x = new TwoReels();
        int was = NONE;
        for (int track : new int[] {0, 8, 0, NONE, 1, 2, 3, 4, 5, 6, 7, 8, 8, NONE, NONE}) {
            Due.is("now(3)", x.now(3), was);
            Due.is("dead(" + track + ")", x.dead(track), was);
            was = track;
        }
        x.dead(4);
        for (int no : new int[] {MIN, -6, -5, -3, -2, -1, 9, 10, MAX}) Due.is("dead(" + no + ")", x.dead(no), BAD);
        Due.is("it stays", x.now(3), 4);
    }
}
