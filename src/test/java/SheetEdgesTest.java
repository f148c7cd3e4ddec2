/** SEEN, IMAGES, SHEETS, count (promises 33 to 42): the edges that the document names, a method a sentence. */
public final class SheetEdgesTest {
    private static final int BAD = TwoReels.BAD, STATE = TwoReels.STATE, FULL = TwoReels.FULL, NONE = TwoReels.NONE;
    private static final int MIN = Integer.MIN_VALUE, MAX = Integer.MAX_VALUE;
    private static final int NULL = 1, INDEX = 2, CAST = 3;

    public static void main(String[] args) {
        sawTwelve();
        sawLeastAndGreatest();
        forgetsAll();
        fitsEachCorner();
        fitsAllThatIsSeen();
        fitsWhateverTheRulesAre();
        fitsTheFirstByHubThenThick();
        keepsTwoImages();
        backToEachImage();
        imagesAreNotChanged();
        imagesLeaveTheRest();
        sheetsOfNothing();
        sheetsOf0To40();
        sheetsAreMadeAnew();
        laysTheFirstAndTheLast();
        laysTheLowestBits();
        readsNone();
        readsOneToTwelve();
        readsAlongTheSheet();
        readsBytesAlone();
        readsAsFarAsThereIsRoom();
        firstMetOfOneCell();
        nullThenCastThenIndex();
        tornOfTheLatest();
        counts();
        Due.close();
    }

    private static void sawTwelve() {
        Due.topic("saw: 12 at most");
        TwoReels x = new TwoReels();
        for (int i = 1; i <= 12; i++) {
            Due.is("SEEN so far", x.count(3), i - 1);
            Due.is("saw, all alike", x.saw(0, 0), i);
        }
        for (int i = 0; i < 3; i++) Due.is("the 13th", x.saw(i, i), FULL);
        Due.is("SEEN", x.count(3), 12);
        Due.is("it is not SEEN", x.fits(0), 855);
    }

    private static void sawLeastAndGreatest() {
        Due.topic("saw: 0 to 999 at 0 to 9999");
        for (int c : new int[] {0, 1, 998, 999}) {
            for (int place : new int[] {0, 1, 9998, 9999}) {
                Due.is("saw(" + c + ", " + place + ")", new TwoReels().saw(c, place), 1);
            }
        }
        TwoReels x = new TwoReels();
        for (int c : new int[] {MIN, -1, 1000, MAX}) {
            for (int place : new int[] {MIN, -1, 0, 9999, 10000, MAX}) Due.is("counter " + c, x.saw(c, place), BAD);
        }
        for (int place : new int[] {MIN, -1, 10000, MAX}) {
            for (int c : new int[] {0, 999}) Due.is("PLACE " + place, x.saw(c, place), BAD);
        }
        Due.is("nothing is SEEN", x.count(3), 0);
        Due.is("a PLACE beyond length", Due.told("length 20;").saw(1, 21), 1);
    }

    private static void forgetsAll() {
        Due.topic("forget");
        TwoReels x = new TwoReels();
        Due.is("nothing", x.forget(), 0);
        for (int n = 0; n <= 12; n++) {
            for (int i = 0; i < n; i++) x.saw(999, 0);
            Due.is("how many there were", x.forget(), n);
            Due.is("none then", x.count(3), 0);
            Due.is("nothing again", x.forget(), 0);
            Due.is("all pairs fit", x.fits(0), 855);
        }
        x.saw(0, 98);
        Due.is("of what is SEEN anew", x.fits(1), 99);
    }

    /** Counter and PLACE by which one pair alone is left. */
    private static void fitsEachCorner() {
        Due.topic("fits: hub 5 to 99, thick 1 to 9");
        only(5, 1, new int[][] {{1, 5}, {2, 11}});
        only(5, 9, new int[][] {{1, 5}, {1, 18}});
        only(99, 1, new int[][] {{0, 98}, {2, 199}});
        only(99, 9, new int[][] {{0, 98}, {1, 206}});
        int[][] none = {{1, 4}, {0, 99}, {2, 10}, {1, 207}, {999, 9999}, {999, 0}, {0, 9999}, {138, 9999}, {1, 0}};
        for (int[] n : none) {
            TwoReels x = new TwoReels();
            x.saw(n[0], n[1]);
            Due.is("no pair shows " + n[0] + " at " + n[1], x.fits(0), 0);
            Due.is("no hub", x.fits(1), NONE);
            Due.is("no thick", x.fits(2), NONE);
        }
        TwoReels x = new TwoReels();
        x.saw(136, 9999);
        Due.is("136 at 9999", x.fits(1) * 10 + x.fits(2), 51);
        x.forget();
        x.saw(0, 0);
        Due.is("0 at 0: all", x.fits(0), 855);
        x.saw(0, 4);
        Due.is("0 at 4: all", x.fits(0), 855);
        x.saw(0, 5);
        Due.is("0 at 5: hub 5 is none", x.fits(0), 855 - 9);
        Due.is("but 6", x.fits(1), 6);
    }

    private static void only(int hub, int thick, int[][] seen) {
        TwoReels x = new TwoReels();
        for (int[] s : seen) x.saw(s[0], s[1]);
        Due.is("hub " + hub + ", thick " + thick + " alone", x.fits(0), 1);
        Due.is("its hub", x.fits(1), hub);
        Due.is("its thick", x.fits(2), thick);
    }

    private static void fitsAllThatIsSeen() {
        Due.topic("fits: all SEEN is so");
        for (int at = 0; at < 12; at++) {
            TwoReels x = new TwoReels();
            for (int i = 0; i < 12; i++) x.saw(0, i == at ? 99 : 0);
            Due.is("the " + at + "th is not so", x.fits(0), 0);
            TwoReels y = new TwoReels();
            for (int i = 0; i < 12; i++) y.saw(0, i == at ? 98 : 0);
            Due.is("the " + at + "th is so with 99 alone", y.fits(0), 9);
        }
        TwoReels real = Due.told("length 5000;hub 37;thick 6;");
        for (int i = 0; i < 12; i++) real.saw(real.turns(417 * i, false), 417 * i);
        Due.holds("what it is, it CAN BE", real.fits(0) > 0);
    }

    private static void fitsWhateverTheRulesAre() {
        Due.topic("fits: whatever hub and thick are told");
        for (String text : new String[] {"", "hub 5;thick 9;", "length 20;hub 99;"}) {
            TwoReels x = Due.told(text);
            x.saw(3, 60);
            Due.is("pairs", x.fits(0), 66);
            Due.is("hub", x.fits(1), 5);
            Due.is("thick", x.fits(2), 7);
        }
        for (int what : new int[] {MIN, -1, 3, MAX}) Due.is("fits(" + what + ")", new TwoReels().fits(what), BAD);
    }

    private static void fitsTheFirstByHubThenThick() {
        Due.topic("fits: the first by hub, then thick");
        TwoReels x = new TwoReels();
        Due.is("hub of all", x.fits(1), 5);
        Due.is("thick of all", x.fits(2), 1);
        x.saw(10, 300);
        int hub = 5;
        int thick = 1;
        int pairs = 0;
        for (int h = 99; h >= 5; h--) {
            for (int t = 9; t >= 1; t--) {
                if (10 * h + 45 * t > 300 || 11 * h + 55 * t <= 300) continue;
                hub = h;
                thick = t;
                pairs++;
            }
        }
        Due.is("pairs", x.fits(0), pairs);
        Due.is("hub", x.fits(1), hub);
        Due.is("thick", x.fits(2), thick);
    }

    private static void keepsTwoImages() {
        Due.topic("keep: IMAGE 0, IMAGE 1");
        TwoReels x = new TwoReels();
        for (int i : new int[] {MIN, -1, 2, MAX}) Due.is("keep(" + i + ")", x.keep(i), BAD);
        Due.is("none yet", x.count(4), 0);
        Due.is("keep(1)", x.keep(1), 0);
        Due.is("one", x.count(4), 1);
        Due.is("IMAGE 0 is none", x.back(0), STATE);
        Due.is("keep(0)", x.keep(0), 0);
        Due.is("two", x.count(4), 2);
        for (int i = 0; i < 2; i++) Due.is("there was one", x.keep(i), 1);
        Due.is("two still", x.count(4), 2);
        x.text();
        Due.is("gone by a text", x.keep(0), 0);
    }

    private static void backToEachImage() {
        Due.topic("back: IMAGE 0, IMAGE 1");
        TwoReels x = new TwoReels();
        for (int i : new int[] {MIN, -1, 2, MAX}) Due.is("back(" + i + ")", x.back(i), BAD);
        for (int i = 0; i < 2; i++) Due.is("there is none", x.back(i), STATE);
        x.keep(0);
        x.mark(0);
        x.mark(1);
        x.go(500);
        x.keep(1);
        x.cut(0, 900);
        for (int turn = 0; turn < 2; turn++) {
            Due.is("IMAGE 0: no BLOCKS", x.back(0), 0);
            Due.is("THE HEAD", x.now(0), 0);
            Due.is("length", x.rule(0), 1000);
            Due.is("IMAGE 1: two", x.back(1), 2);
            Due.is("THE HEAD", x.now(0), 500);
            Due.is("length", x.rule(0), 1000);
        }
        TwoReels full = States.full();
        Due.is("12 BLOCKS", full.back(0), 12);
        Due.is("nothing typed", full.now(4), 0);
        Due.is("nothing SEEN", full.count(3), 0);
        Due.is("12 again", full.back(1), 12);
        Due.is("12 typed", full.now(4), 12);
        Due.is("12 SEEN", full.count(3), 12);
    }

    /** Whatever is done behind keep(), and behind back(): the IMAGE has what it had. */
    private static void imagesAreNotChanged() {
        Due.topic("IMAGES stay as they are");
        TwoReels due = States.used();
        due.keep(0);
        due.back(1);
        TwoReels x = States.used();
        x.keep(0);
        for (int turn = 0; turn < 2; turn++) {
            x.back(1);
            Whole.same("all is as IMAGE 1", Whole.asked(x), Whole.asked(due));
            x.spoil(0, 0, 0);
            x.type(99);
            x.dead(8);
            x.saw(9, 9);
            x.go(150);
            x.cut(0, 12);
            x.mark(2);
            x.write(0);
        }
        x.back(0);
        TwoReels used = States.used();
        used.keep(0);
        Whole.same("all is as IMAGE 0", Whole.asked(x), Whole.asked(used));
        Due.is("of IMAGE 0 two were typed", x.write(4), used.write(4));
        Due.is("the second one", x.got(4, 1), 2);
    }

    private static void imagesLeaveTheRest() {
        Due.topic("back: what is in no IMAGE");
        TwoReels x = States.used();
        x.lay(0, 1, 77);
        x.sheet(3, 2, 4);
        x.read(0, 2, 0, 1);
        Due.tell(x, "hub 7;hub 7;");
        Due.feedText(x, "gap 9");
        x.back(1);
        Due.is("the FAULT of text()", x.fault(), 4);
        Due.is("the FAULT of read()", x.torn(), CAST);
        Due.is("LETTERS", x.count(5), 5);
        Due.is("IMAGES", x.count(4), 1);
        Due.is("SHEET 3", x.read(3, 2, 0, 4), 4);
        Due.is("SHEET 0", x.read(0, 0, 1, 1), 1);
        x.write(0);
        Due.is("its CELL", x.got(0, 5), 77);
    }

    private static void sheetsOfNothing() {
        Due.topic("SHEETS: nothing at first");
        for (int k = 0; k < 4; k++) {
            TwoReels x = new TwoReels();
            for (int i : new int[] {MIN, -1, 0, 39, MAX}) Due.is("lay, CELL " + i, x.lay(k, i, 1), -10 - NULL);
            for (int lane = 0; lane < 3; lane++) {
                x.read(3 - k, lane, 0, 0);
                Due.is("read as of lane " + lane, x.read(k, lane, 0, 1), 0);
                Due.is("NULL", x.torn(), NULL);
            }
            for (int other = 0; other < 4; other++) {
                if (other != k) x.sheet(other, 0, 1);
            }
            Due.is("the others do not matter", x.lay(k, 0, 1), -10 - NULL);
            Due.is("count(6)", x.count(6), k == 0 ? NONE : 1);
        }
    }

    private static void sheetsOf0To40() {
        Due.topic("SHEETS: 0 to 40 CELLS");
        for (int k = 0; k < 4; k++) {
            for (int lane = 0; lane < 3; lane++) {
                TwoReels x = new TwoReels();
                for (int n : new int[] {0, 1, 39, 40}) {
                    Due.is("sheet(" + k + ", " + lane + ", " + n + ")", x.sheet(k, lane, n), 1);
                    if (k == 0) Due.is("count(6)", x.count(6), n);
                    Due.is("ahead of its CELLS", x.lay(k, -1, 1), -10 - INDEX);
                    if (n > 0) Due.is("the first CELL", x.lay(k, 0, 1), 1);
                    if (n > 0) Due.is("the last one", x.lay(k, n - 1, 1), 1);
                    Due.is("behind it", x.lay(k, n, 1), -10 - INDEX);
                    Due.is("read behind it", x.read(k, lane, n, 1), 0);
                    Due.is("INDEX", x.torn(), INDEX);
                }
                for (int n : new int[] {41, 42, 255, MAX}) Due.is("sheet of " + n, x.sheet(k, lane, n), BAD);
                for (int n : new int[] {-1, -2, -40, MIN}) Due.is("sheet of " + n, x.sheet(k, lane, n), -14);
                Due.is("the 40 stay", x.lay(k, 39, 1), 1);
            }
        }
        TwoReels x = new TwoReels();
        for (int k : new int[] {MIN, -1, 4, MAX}) Due.is("SHEET " + k, x.sheet(k, 0, 1), BAD);
        for (int lane : new int[] {MIN, -1, 3, MAX}) Due.is("lane " + lane, x.sheet(0, lane, 1), BAD);
        Due.is("of SIZE below 0, but no SHEET", x.sheet(4, 0, -1), BAD);
        Due.is("of SIZE below 0, but no lane", x.sheet(0, 3, -1), BAD);
        Due.is("still nothing", x.count(6), NONE);
    }

    private static void sheetsAreMadeAnew() {
        Due.topic("sheet: a new row of CELLS 0");
        for (int n = 1; n <= 12; n += 11) {
            TwoReels x = new TwoReels();
            for (int lane = 0; lane < 3; lane++) {
                x.sheet(2, lane, 40);
                for (int i = 0; i < 40; i++) x.lay(2, i, -1);
                Due.is("anew", x.sheet(2, lane, n), 1);
                Due.is("all are BYTES", x.read(2, lane, 0, n), n);
                x.write(0);
                for (int i = 0; i < n; i++) Due.is("CELL " + i, x.got(0, i), 0);
                Due.is("none behind them", x.lay(2, n, 0), -10 - INDEX);
            }
            x.lay(2, 0, 7);
            x.sheet(1, 2, 1);
            x.read(2, 2, 0, 1);
            x.write(0);
            Due.is("another SHEET leaves it", x.got(0, 0), 7);
        }
        TwoReels x = new TwoReels();
        x.sheet(0, 2, 40);
        x.lay(0, 39, -1);
        x.sheet(0, 2, 40);
        Due.is("the last CELL, too", x.read(0, 2, 39, 1), 1);
    }

    private static void laysTheFirstAndTheLast() {
        Due.topic("lay: each SHEET, each end");
        TwoReels x = new TwoReels();
        for (int k = 0; k < 4; k++) {
            x.sheet(k, k % 3, 10 + k);
            Due.is("the first CELL", x.lay(k, 0, 100 + k), 1);
            Due.is("the last one", x.lay(k, 9 + k, 110 + k), 1);
            for (int i : new int[] {MIN, -1, 10 + k, 40, MAX}) Due.is("CELL " + i, x.lay(k, i, 1), -10 - INDEX);
        }
        for (int k : new int[] {MIN, -1, 4, MAX}) {
            for (int i : new int[] {-1, 0, 40}) Due.is("SHEET " + k, x.lay(k, i, 1), BAD);
        }
        for (int k = 0; k < 4; k++) {
            x.read(k, k % 3, 0, 1);
            x.read(k, k % 3, 9 + k, 1);
            x.read(k, k % 3, 1, 1);
        }
        x.write(0);
        for (int k = 0; k < 4; k++) {
            Due.is("first of SHEET " + k, x.got(0, 3 * k), 100 + k);
            Due.is("last of SHEET " + k, x.got(0, 3 * k + 1), 110 + k);
            Due.is("second of SHEET " + k, x.got(0, 3 * k + 2), 0);
        }
    }

    /** Due is what is read of the CELL then; -20: it is no BYTE. */
    private static void laysTheLowestBits() {
        Due.topic("lay: the lowest bits, with a sign");
        int[][] due = {
            {0, 127, 127}, {0, 128, -20}, {0, 255, -20}, {0, 256, 0}, {0, 383, 127}, {0, 384, -20}, {0, -1, -20},
            {0, -128, -20}, {0, -129, 127}, {0, MIN, 0}, {0, MAX, -20}, {0, 65536 + 9, 9},
            {1, 127, 127}, {1, 128, 128}, {1, 255, 255}, {1, 256, -20}, {1, 32767, -20}, {1, 32768, -20},
            {1, 65535, -20}, {1, 65536, 0}, {1, 65536 + 255, 255}, {1, 65536 + 256, -20}, {1, -1, -20},
            {1, -65536 + 255, 255}, {1, MIN, 0}, {1, MAX, -20}, {1, MIN + 7, 7},
            {2, 0, 0}, {2, 255, 255}, {2, 256, -20}, {2, 65536, -20}, {2, 65536 + 255, -20}, {2, -1, -20},
            {2, MIN, -20}, {2, MAX, -20}, {2, 16777216, -20}};
        for (int[] d : due) {
            TwoReels x = new TwoReels();
            x.sheet(0, d[0], 1);
            Due.is("lay of " + d[1], x.lay(0, 0, d[1]), 1);
            Due.is("read of " + d[1] + " as of lane " + d[0], x.read(0, d[0], 0, 1), d[2] < 0 ? -20 : 1);
            if (d[2] < 0) continue;
            x.write(0);
            Due.is("the BYTE of " + d[1], x.got(0, 0), d[2]);
        }
    }

    private static void readsNone() {
        Due.topic("read: n 0, whatever the SHEET is");
        TwoReels x = new TwoReels();
        x.sheet(0, 1, 3);
        x.sheet(1, 2, 0);
        for (int k = 0; k < 4; k++) {
            for (int lane = 0; lane < 3; lane++) {
                for (int f : new int[] {MIN, -1, 0, 3, MAX}) {
                    x.read(3, 0, 0, 1);
                    Due.is("torn() ahead", x.torn(), NULL);
                    Due.is("read(" + k + ", " + lane + ", " + f + ", 0)", x.read(k, lane, f, 0), 0);
                    Due.is("no FAULT", x.torn(), 0);
                }
            }
        }
        Due.is("nothing is typed", x.now(4), 0);
        TwoReels full = States.full();
        Due.is("12 are typed: n 0 has room", full.read(3, 0, 0, 0), 0);
        for (int k : new int[] {MIN, -1, 4, MAX}) Due.is("SHEET " + k, x.read(k, 0, 0, 0), BAD);
        for (int lane : new int[] {MIN, -1, 3, MAX}) Due.is("lane " + lane, x.read(0, lane, 0, 0), BAD);
        for (int n : new int[] {MIN, -1, 13, MAX}) Due.is("n " + n, x.read(0, 1, 0, n), BAD);
        for (int n : new int[] {MIN, -1, 13, MAX}) Due.is("n " + n + " of nothing", x.read(3, 1, 0, n), BAD);
    }

    private static void readsOneToTwelve() {
        Due.topic("read: n 1 to 12");
        for (int n = 1; n <= 12; n++) {
            TwoReels x = new TwoReels();
            x.sheet(0, 2, 12);
            for (int i = 0; i < 12; i++) x.lay(0, i, 255 - i);
            Due.is("read of " + n, x.read(0, 2, 12 - n, n), n);
            Due.is("no FAULT", x.torn(), 0);
            Due.is("typed", x.now(4), n);
            x.write(0);
            for (int i = 0; i < n; i++) Due.is("BYTE " + i, x.got(0, i), 255 - (12 - n) - i);
        }
    }

    private static void readsAlongTheSheet() {
        Due.topic("read: from CELL f on");
        TwoReels made = new TwoReels();
        for (int f = -2; f <= 42; f++) {
            TwoReels x = made;
            if (f % 20 == 0 || f == -2) {
                x = new TwoReels();
                made = x;
                x.sheet(1, 1, 40);
                for (int i = 0; i < 40; i++) x.lay(1, i, 200 + i);
            }
            int due = f < 0 ? 0 : Math.max(0, Math.min(3, 40 - f));
            Due.is("three from " + f + " on", x.read(1, 1, f, 3), due);
            Due.is("FAULT from " + f + " on", x.torn(), due == 3 ? 0 : INDEX);
            Due.is("typed", x.now(4), due);
            if (due == 0) continue;
            x.write(0);
            for (int i = 0; i < due; i++) Due.is("BYTE " + i, x.got(0, i), 200 + f + i);
        }
        for (int f : new int[] {MIN, MIN + 1, -12, -11, MAX - 11, MAX - 1, MAX}) {
            Due.is("twelve from " + f + " on", made.read(1, 1, f, 12), 0);
            Due.is("INDEX", made.torn(), INDEX);
        }
    }

    private static void readsBytesAlone() {
        Due.topic("read: a CELL that is no BYTE");
        for (int i = 0; i < 12; i++) {
            TwoReels x = new TwoReels();
            x.sheet(0, 2, 12);
            x.lay(0, i, i % 2 == 0 ? 256 : -1);
            Due.is("CELL " + i, x.read(0, 2, 0, 12), -20 - i);
            Due.is("none is typed", x.now(4), 0);
            Due.is("none is typed: nothing to write", x.write(0), STATE);
            if (i > 0) Due.is("those ahead of it", x.read(0, 2, 0, i), i);
            if (i < 11) Due.is("-20 less how far from f", x.read(0, 2, i, 2), -20);
            Due.is("typed", x.now(4), i);
        }
        TwoReels x = new TwoReels();
        x.sheet(0, 2, 3);
        x.lay(0, 1, 999);
        x.lay(0, 2, -999);
        Due.is("the first that is none", x.read(0, 2, 0, 3), -21);
        x.lay(0, 1, 255);
        Due.is("the next one", x.read(0, 2, 0, 3), -22);
        x.lay(0, 2, 0);
        Due.is("0 and 255 are BYTES", x.read(0, 2, 0, 3), 3);
    }

    private static void readsAsFarAsThereIsRoom() {
        Due.topic("read: room for 12");
        for (int typed = 0; typed <= 12; typed++) {
            TwoReels x = new TwoReels();
            x.sheet(0, 0, 40);
            for (int i = 0; i < typed; i++) x.type(200);
            Due.is("one more than there is room for", typed == 0 ? FULL : x.read(0, 0, 0, 13 - typed), FULL);
            Due.is("none is typed", x.now(4), typed);
            Due.is("just as many", x.read(0, 0, 0, 12 - typed), 12 - typed);
            Due.is("12 are typed", x.now(4), 12);
            x.write(0);
            for (int i = 0; i < 12; i++) Due.is("BYTE " + i, x.got(0, i), i < typed ? 200 : 0);
        }
    }

    /** Of several CELLS the one that is met first decides; of one CELL the machine, then no BYTE, then no room. */
    private static void firstMetOfOneCell() {
        Due.topic("read: the first met");
        TwoReels x = new TwoReels();
        x.sheet(0, 2, 3);
        x.lay(0, 2, 256);
        for (int i = 0; i < 11; i++) x.type(i);
        Due.is("room for the first, none for the second", x.read(0, 2, 0, 3), FULL);
        Due.is("room for the first, the second is no BYTE", x.read(0, 2, 1, 2), -21);
        Due.is("room for the first, the second is no CELL", x.lay(0, 2, 9) * x.read(0, 2, 2, 2), 1);
        Due.is("INDEX", x.torn(), INDEX);
        Due.is("those ahead are typed", x.now(4), 12);
        Due.is("no room", x.read(0, 2, 2, 2), FULL);
        Due.is("no CELL and no room", x.read(0, 2, 3, 2), 0);
        x.lay(0, 0, -1);
        Due.is("no BYTE and no room", x.read(0, 2, 0, 1), -20);
        Due.is("no BYTE behind no room", x.lay(0, 0, 1) * x.lay(0, 1, -1) * x.read(0, 2, 0, 2), FULL);
        Due.is("CAST and no room", x.read(0, 0, 0, 2), 0);
        Due.is("CAST", x.torn(), CAST);
        Due.is("NULL and no room", x.read(1, 0, 0, 2), 0);
        Due.is("NULL", x.torn(), NULL);
    }

    private static void nullThenCastThenIndex() {
        Due.topic("FAULTS of the machine");
        TwoReels x = new TwoReels();
        for (int f : new int[] {MIN, -1, 0, 40, MAX}) {
            Due.is("nothing", x.read(2, 1, f, 1), 0);
            Due.is("NULL, whatever f is", x.torn(), NULL);
        }
        for (int made = 0; made < 3; made++) {
            for (int lane = 0; lane < 3; lane++) {
                x.sheet(2, made, 1);
                for (int f : new int[] {MIN, -1, 1, MAX}) {
                    Due.is("read as of " + lane + " from " + f, x.read(2, lane, f, 1), 0);
                    Due.is("CAST ahead of INDEX", x.torn(), lane == made ? INDEX : CAST);
                }
                Due.is("CELL 0", x.read(2, lane, 0, 1), lane == made ? 1 : 0);
                Due.is("FAULT", x.torn(), lane == made ? 0 : CAST);
            }
        }
        x.sheet(2, 0, 0);
        Due.is("no CELLS: another lane", x.read(2, 1, 0, 1), 0);
        Due.is("CAST", x.torn(), CAST);
        Due.is("no CELLS", x.read(2, 0, 0, 1), 0);
        Due.is("INDEX", x.torn(), INDEX);
    }

    private static void tornOfTheLatest() {
        Due.topic("torn: of the latest that was answered");
        TwoReels x = new TwoReels();
        Due.is("no read()", x.torn(), 0);
        x.sheet(0, 0, 2);
        x.lay(0, 1, -1);
        for (int fault = 0; fault <= 3; fault++) {
            if (fault == 0) x.read(0, 0, 0, 1);
            if (fault == NULL) x.read(1, 0, 0, 1);
            if (fault == INDEX) x.read(0, 0, 2, 1);
            if (fault == CAST) x.read(0, 1, 0, 1);
            Due.is("torn()", x.torn(), fault);
            Due.is("no BYTE", x.read(0, 0, 1, 1), -20);
            Due.is("BAD", x.read(0, 0, 0, 13), BAD);
            Due.is("no such lane", x.read(0, 3, 0, 1), BAD);
            Due.is("no such SHEET", x.read(4, 0, 0, 1), BAD);
            for (int i = x.now(4); i < 12; i++) x.type(i);
            Due.is("no room", x.read(0, 0, 0, 1), FULL);
            x.write(0);
            x.lay(2, 0, 0);
            x.lay(0, 9, 0);
            x.sheet(2, 0, -1);
            x.text();
            Due.is("it stays " + fault, x.torn(), fault);
        }
        Due.is("of n 0", x.read(3, 0, 0, 0), 0);
        Due.is("none", x.torn(), 0);
    }

    private static void counts() {
        Due.topic("count");
        TwoReels x = new TwoReels();
        int[] none = {0, 0, 0, 0, 0, 0, NONE};
        for (int what = 0; what < 7; what++) Due.is("of none: count(" + what + ")", x.count(what), none[what]);
        TwoReels full = States.full();
        int[] all = {12, 11, 3, 12, 2, 400, 2};
        for (int what = 0; what < 7; what++) Due.is("of all: count(" + what + ")", full.count(what), all[what]);
        full.sheet(0, 0, 40);
        Due.is("CELLS", full.count(6), 40);
        full.sheet(0, 0, 0);
        Due.is("no CELLS are not nothing", full.count(6), 0);
        TwoReels bytes = Due.told("block 1 2 3 4 5 6 7 8 9 10 11 12;".repeat(12));
        Due.is("BYTES of all BLOCKS", bytes.count(2), 144);
        Due.is("no MARKS", bytes.count(1), 0);
        bytes.mark(5);
        Due.is("BYTES of those that are left", bytes.count(2), 60);
        for (int what : new int[] {MIN, -1, 7, MAX}) Due.is("count(" + what + ")", x.count(what), BAD);
    }
}
