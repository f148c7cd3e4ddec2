/** Promises 1 to 42, one method each: ordinary inputs, the edges that the document names, and wrong inputs. */
public final class PromisesTest {
    private static final int BAD = TwoReels.BAD, STATE = TwoReels.STATE, FULL = TwoReels.FULL, NONE = TwoReels.NONE;
    private static final int MIN = Integer.MIN_VALUE, MAX = Integer.MAX_VALUE;
    private static final String SMALL = States.SMALL, FOUR = States.FOUR;

    public static void main(String[] args) {
        promise01();
        promise02();
        promise03();
        promise04();
        promise05();
        promise06();
        promise07();
        promise08();
        promise09();
        promise10();
        promise11();
        promise12();
        promise13();
        promise14();
        promise15();
        promise16();
        promise17();
        promise18();
        promise19();
        promise20();
        promise21();
        promise22();
        promise23();
        promise24();
        promise25();
        promise26();
        promise27();
        promise28();
        promise29();
        promise30();
        promise31();
        promise32();
        promise33();
        promise34();
        promise35();
        promise36();
        promise37();
        promise38();
        promise39();
        promise40();
        promise41();
        promise42();
        Due.close();
    }

    private static void promise01() {
        Due.topic("1 a new object");
        TwoReels x = new TwoReels();
        for (int r = 0; r < 9; r++) Due.is("rule(" + r + ")", x.rule(r), Due.RULES_FIRST[r]);
        int[] now = {0, 0, 0, NONE, 0, 1000};
        for (int w = 0; w < 6; w++) Due.is("now(" + w + ")", x.now(w), now[w]);
        int[] count = {0, 0, 0, 0, 0, 0, NONE};
        for (int w = 0; w < 7; w++) Due.is("count(" + w + ")", x.count(w), count[w]);
        for (int k = 0; k < 4; k++) Due.is("lay(" + k + ", 0, 1)", x.lay(k, 0, 1), -11);
        Due.is("fault()", x.fault(), 0);
        Due.is("torn()", x.torn(), 0);
        Due.is("back(0)", x.back(0), STATE);
        Due.is("back(1)", x.back(1), STATE);
        x.type(1);
        x.mark(0);
        Due.is("another one has no BLOCKS", new TwoReels().count(0), 0);
    }

    private static void promise02() {
        Due.topic("2 feed");
        TwoReels x = new TwoReels();
        Due.is("feed: the highest first", x.feed(0x687562202020373BL), 8);
        Due.is("text()", x.text(), 1);
        Due.is("rule(1)", x.rule(1), 7);
        for (int i = 1; i <= 50; i++) Due.is("feed " + i, x.feed(0x2020202020202020L), 8 * i);
        Due.is("feed 51", x.feed(0), FULL);
        Due.is("count(5)", x.count(5), 400);
        x.end(393);
        Due.is("feed at 393", x.feed(0), FULL);
        Due.is("count(5)", x.count(5), 393);
        x.end(392);
        Due.is("feed at 392", x.feed(0x2020202020202020L), 400);
        Due.is("400 blanks: text()", x.text(), 0);
        x.feed(-1L);
        Due.is("byte 255 is no TOKEN", x.text(), -10);
        Due.is("fault()", x.fault(), 1);
    }

    private static void promise03() {
        Due.topic("3 end");
        TwoReels x = new TwoReels();
        Due.is("end(0)", x.end(0), 0);
        Due.is("end(1)", x.end(1), BAD);
        Due.feedText(x, "hub 7;hub 8;");
        Due.is("end(-1)", x.end(-1), BAD);
        Due.is("end(13)", x.end(13), BAD);
        Due.is("end(MAX)", x.end(MAX), BAD);
        Due.is("end(12)", x.end(12), 12);
        Due.is("end(6)", x.end(6), 12);
        Due.is("count(5)", x.count(5), 6);
        Due.is("end(7)", x.end(7), BAD);
        Due.is("text()", x.text(), 1);
        Due.is("rule(1)", x.rule(1), 7);
    }

    private static void promise04() {
        Due.topic("4 text");
        TwoReels x = new TwoReels();
        Due.is("nothing", Due.tell(x, ""), 0);
        Due.is("blanks", Due.tell(x, "   "), 0);
        Due.is("lines", Due.tell(x, "hub5;mark;block 1 2;"), 3);
        Due.is("blanks all over", Due.tell(x, "  hub   0005  ;  mark  ;  block  1   255  ;  "), 3);
        Due.is("rule(1)", x.rule(1), 5);
        Due.is("block(1, 2)", x.block(1, 2), 2);
        Due.is("column(1, 1)", x.column(1, 1), 511);
        Due.is("LETTERS then", x.count(5), 0);
        String eachRule = "hitch 1;dense 2;gap 3;ramp 4;wind 5;play 6;thick 7;hub 8;length 9000;";
        Due.is("each rule", Due.tell(x, eachRule), 9);
        int[] told = {9000, 8, 7, 6, 5, 4, 3, 2, 1};
        for (int r = 0; r < 9; r++) Due.is("rule(" + r + ")", x.rule(r), told[r]);
        Due.is("not told: as at first", Due.tell(x, "gap 9;"), 1);
        Due.is("rule(0)", x.rule(0), 1000);
        Due.is("rule(8)", x.rule(8), 20);
        Due.is("RULES behind BLOCKS count", Due.tell(x, "block 1;block 1;dense 1;gap 9;"), 4);
        Due.is("block(1, 0)", x.block(1, 0), 20);
        textTakenDropsAll();
        textRefusedKeepsAll();
    }

    private static void textTakenDropsAll() {
        TwoReels x = used();
        Due.is("text()", Due.tell(x, "hub 10;"), 1);
        int[] now = {0, 0, 0, NONE, 0, 1000};
        for (int w = 0; w < 6; w++) Due.is("now(" + w + ")", x.now(w), now[w]);
        int[] count = {0, 0, 0, 0, 0, 0, 3};
        for (int w = 0; w < 7; w++) Due.is("count(" + w + ")", x.count(w), count[w]);
        Due.is("back(1)", x.back(1), STATE);
        Due.is("the SHEET stays", x.read(0, 1, 2, 1), 1);
    }

    private static void textRefusedKeepsAll() {
        TwoReels x = used();
        int[] now = {x.now(0), x.now(1), x.now(2), x.now(3), x.now(4), x.now(5)};
        Due.is("text()", Due.tell(x, "hub 20;gap 1;mark;mark;block 7;hub"), -41);
        for (int w = 0; w < 6; w++) Due.is("now(" + w + ")", x.now(w), now[w]);
        int[] count = {4, 1, 6, 1, 1, 0, 3};
        for (int w = 0; w < 7; w++) Due.is("count(" + w + ")", x.count(w), count[w]);
        Due.is("rule(1)", x.rule(1), 10);
        Due.is("block(1, 0)", x.block(1, 0), 10);
        Due.is("back(1)", x.back(1), 4);
    }

    /** All that can be there, is there. */
    private static TwoReels used() {
        TwoReels x = Due.told(FOUR);
        x.go(60);
        x.type(9);
        x.dead(3);
        x.saw(1, 2);
        x.keep(1);
        x.sheet(0, 1, 3);
        x.lay(0, 2, 77);
        return x;
    }

    private static void promise05() {
        Due.topic("5 fault");
        TwoReels x = new TwoReels();
        Due.refuses(x, "HUB 5;", 0, 1);
        Due.refuses(x, "hub 5.;", 5, 1);
        Due.refuses(x, "hub 5;\t", 6, 1);
        Due.refuses(x, "hub -5;", 4, 1);
        Due.refuses(x, "hub  00005;", 5, 1);
        Due.refuses(x, "block 1 22222;", 8, 1);
        Due.refuses(x, "12345", 0, 1);
        Due.refuses(x, "`", 0, 1);
        Due.refuses(x, "{", 0, 1);
        Due.refuses(x, "/", 0, 1);
        Due.refuses(x, ":", 0, 1);
        Due.refuses(x, "hubs 5;", 0, 2);
        Due.refuses(x, " hu 5;", 1, 2);
        Due.refuses(x, "nub 5;", 0, 2);
        Due.refuses(x, "z", 0, 2);
        Due.refuses(x, ";", 0, 2);
        Due.refuses(x, "hub 5;;", 6, 2);
        Due.refuses(x, "7;", 0, 2);
        Due.refuses(x, "hub hub 5;", 4, 2);
        Due.refuses(x, "hub;", 3, 2);
        Due.refuses(x, "hub", 3, 2);
        Due.refuses(x, "hub   ", 6, 2);
        Due.refuses(x, "hub 5", 5, 2);
        Due.refuses(x, "hub 5  ", 7, 2);
        Due.refuses(x, "hub 5 mark;", 6, 2);
        Due.refuses(x, "hub 5 5;", 6, 2);
        Due.refuses(x, "block;", 5, 2);
        Due.refuses(x, "block a;", 6, 2);
        Due.refuses(x, "block 1", 7, 2);
        Due.refuses(x, "mark 1;", 5, 2);
        Due.refuses(x, "mark", 4, 2);
        bounds(new TwoReels());
        twiceAndTooMany(new TwoReels());
        firstMet(new TwoReels());
        Due.is("a text that is taken", Due.tell(x, "hub 5;"), 1);
        Due.is("fault()", x.fault(), 0);
    }

    private static void bounds(TwoReels x) {
        String[] names = Due.RULES;
        int[] low = Due.RULES_LEAST;
        int[] high = Due.RULES_MOST;
        for (int r = 0; r < 9; r++) {
            int place = names[r].length() + 1;
            if (low[r] > 0) Due.refuses(x, names[r] + " " + (low[r] - 1) + ";", place, 3);
            Due.refuses(x, names[r] + " " + (high[r] + 1) + ";", place, r == 0 ? 1 : 3);
            Due.is(names[r] + " least", Due.tell(x, names[r] + " " + low[r] + ";"), 1);
            Due.is("rule(" + r + ")", x.rule(r), low[r]);
            Due.is(names[r] + " most", Due.tell(x, names[r] + " " + high[r] + ";"), 1);
            Due.is("rule(" + r + ")", x.rule(r), high[r]);
            Due.refuses(x, names[r] + " " + low[r] + ";" + names[r], (names[r] + low[r]).length() + 2, 4);
        }
        Due.refuses(x, "block 256;", 6, 3);
        Due.refuses(x, "block 0 255 256;", 12, 3);
    }

    private static void twiceAndTooMany(TwoReels x) {
        Due.refuses(x, "hub 5;gap 1;hub 5;", 12, 4);
        String twelve = "mark;block 1;".repeat(6);
        Due.is("12 BLOCKS", Due.tell(x, twelve), 12);
        Due.is("count(0)", x.count(0), 12);
        Due.refuses(x, twelve + "mark;", twelve.length(), 5);
        Due.refuses(x, twelve + " block", twelve.length() + 1, 5);
        Due.is("12 BYTES", Due.tell(x, "block 1 2 3 4 5 6 7 8 9 10 11 12;"), 1);
        Due.is("block(0, 2)", x.block(0, 2), 12);
        Due.refuses(x, "block 1 2 3 4 5 6 7 8 9 10 11 12 13;", 33, 5);
        String nine = "length 20;gap 0;dense 1;block 1 2 3 4 5 6 7 8 9;";
        Due.is("just to the end", Due.tell(x, nine + "block 1 2 3 4 5 6 7 8 9;"), 5);
        Due.is("now(5)", x.now(5), 0);
        String over = nine + "block 1 2 3 4 5 6 7 8 9;mark; ";
        Due.refuses(x, over, over.length(), 6);
        Due.refuses(x, "mark;mark;mark;length 20;", 25, 6);
    }

    /** A TOKEN is read when the one before has been taken. */
    private static void firstMet(TwoReels x) {
        Due.refuses(x, "hub 200#;", 4, 3);
        Due.refuses(x, "hub 5;hub#;", 6, 4);
        Due.refuses(x, "hub 5#;", 5, 1);
        Due.refuses(x, "hub #", 4, 1);
        Due.refuses(x, "hubs#", 0, 2);
        Due.refuses(x, "block 300 22222;", 6, 3);
        Due.refuses(x, "mark;".repeat(12) + "mark#", 60, 5);
        Due.refuses(x, "length 20;mark;mark;mark;#", 25, 1);
    }

    private static void promise06() {
        Due.topic("6 rule");
        TwoReels x = new TwoReels();
        Due.is("rule(-1)", x.rule(-1), BAD);
        Due.is("rule(9)", x.rule(9), BAD);
        Due.is("rule(MIN)", x.rule(MIN), BAD);
        Due.is("rule(MAX)", x.rule(MAX), BAD);
        Due.is("rule(0)", x.rule(0), 1000);
        x.cut(0, 100);
        Due.is("rule(0) behind a CUT", x.rule(0), 900);
    }

    private static void promise07() {
        Due.topic("7 turns");
        TwoReels x = Due.told(SMALL);
        int[] places = {0, 10, 22, 36, 52, 70, 90, 112, 136, 162, 190};
        for (int n = 0; n < 11; n++) {
            Due.is("turns(" + places[n] + ")", x.turns(places[n], false), n);
            if (n > 0) Due.is("one PLACE ahead", x.turns(places[n] - 1, false), n - 1);
            Due.is("turns, left", x.turns(200 - places[n], true), n);
        }
        Due.is("turns(200)", x.turns(200, false), 10);
        Due.is("turns(-1)", x.turns(-1, false), BAD);
        Due.is("turns(201)", x.turns(201, false), BAD);
        Due.is("turns(201, left)", x.turns(201, true), BAD);
        TwoReels thin = Due.told("length 9999;hub 5;thick 1;");
        Due.is("the thinnest", thin.turns(9999, false), 136);
        Due.is("ahead of it", thin.turns(9859, false), 135);
        Due.is("at it", thin.turns(9860, false), 136);
    }

    private static void promise08() {
        Due.topic("8 shows");
        TwoReels x = Due.told(SMALL);
        Due.is("shows(0, 0)", x.shows(0, 0), 0);
        Due.is("shows(0, 1)", x.shows(0, 1), 9);
        Due.is("shows(9, 0)", x.shows(9, 0), 162);
        Due.is("shows(9, 1)", x.shows(9, 1), 189);
        Due.is("shows(10, 0)", x.shows(10, 0), 190);
        Due.is("shows(10, 1): the end", x.shows(10, 1), 200);
        Due.is("shows(11, 0)", x.shows(11, 0), NONE);
        Due.is("shows(11, 1)", x.shows(11, 1), NONE);
        Due.is("shows(MAX, 1)", x.shows(MAX, 1), NONE);
        Due.is("shows(65536, 0)", x.shows(65536, 0), NONE);
        Due.is("shows(-1, 0)", x.shows(-1, 0), BAD);
        Due.is("shows(1, 2)", x.shows(1, 2), BAD);
        Due.is("shows(MAX, -1)", x.shows(MAX, -1), BAD);
        TwoReels short20 = Due.told("length 20;hub 99;");
        Due.is("no TURN at all", short20.shows(0, 1), 20);
        Due.is("shows(1, 0)", short20.shows(1, 0), NONE);
    }

    private static void promise09() {
        Due.topic("9 meet");
        Due.is("small", Due.told(SMALL).meet(), 90);
        Due.is("at first", new TwoReels().meet(), 491);
        Due.is("no TURN on either", Due.told("length 20;hub 99;").meet(), 0);
        TwoReels x = Due.told("length 100;hub 99;");
        Due.is("from where LEFT has none", x.meet(), 2);
        x.cut(0, 1);
        Due.is("behind a CUT", x.meet(), 1);
    }

    private static void promise10() {
        Due.topic("10 ticks");
        TwoReels x = Due.told(SMALL);
        Due.is("PLAYED", x.ticks(0, 200, 0), 2003);
        Due.is("PLAYED back", x.ticks(200, 0, 0), 2003);
        Due.is("WOUND", x.ticks(0, 200, 1), 56);
        Due.is("WOUND on: of the RIGHT reel", x.ticks(0, 36, 1), 21);
        Due.is("WOUND back: of the LEFT reel", x.ticks(36, 0, 1), 11);
        Due.is("within one TURN", x.ticks(3, 4, 1), 6);
        Due.is("SOONER, wound", x.ticks(3, 4, 2), 6);
        Due.is("SOONER, played", Due.told("ramp 50;").ticks(3, 4, 2), 60);
        for (int w = 0; w < 3; w++) Due.is("the same PLACE", x.ticks(5, 5, w), 0);
        Due.is("no ramp", Due.told("ramp 0;").ticks(3, 4, 2), 0);
        Due.is("ticks(-1, 0, 0)", x.ticks(-1, 0, 0), BAD);
        Due.is("ticks(0, -1, 0)", x.ticks(0, -1, 0), BAD);
        Due.is("ticks(201, 0, 0)", x.ticks(201, 0, 0), BAD);
        Due.is("ticks(0, 201, 0)", x.ticks(0, 201, 0), BAD);
        Due.is("ticks(0, 0, -1)", x.ticks(0, 0, -1), BAD);
        Due.is("ticks(0, 0, 3)", x.ticks(0, 0, 3), BAD);
    }

    private static void promise11() {
        Due.topic("11 go");
        TwoReels x = Due.told(SMALL);
        Due.is("go(60)", x.go(60), 26);
        Due.is("now(0)", x.now(0), 60);
        Due.is("go(60) again", x.go(60), 0);
        Due.is("go(201)", x.go(201), BAD);
        Due.is("go(-1)", x.go(-1), BAD);
        Due.is("now(0)", x.now(0), 60);
        Due.is("go(200)", x.go(200), 36);
        Due.is("go(0)", x.go(0), 56);
        Due.is("now(1)", x.now(1), 118);
    }

    private static void promise12() {
        Due.topic("12 now");
        TwoReels x = Due.told(FOUR);
        Due.is("now(5)", x.now(5), 178);
        x.go(60);
        x.type(1);
        x.type(2);
        x.dead(8);
        int[] now = {60, 26, 4, 8, 2, 178};
        for (int w = 0; w < 6; w++) Due.is("now(" + w + ")", x.now(w), now[w]);
        Due.is("now(-1)", x.now(-1), BAD);
        Due.is("now(6)", x.now(6), BAD);
        TwoReels y = Due.told(FOUR);
        int took = y.go(50) + y.mark(4) + y.reads(5);
        y.type(3);
        took += y.write(2);
        y.cut(0, 3);
        Due.is("TICKS of go, mark, reads, write", y.now(1), took);
    }

    private static void promise13() {
        Due.topic("13 within");
        TwoReels x = Due.told(SMALL);
        Due.is("within(0, on)", x.within(0, false), 0);
        Due.is("within(5, on)", x.within(5, false), 0);
        Due.is("within(6, on): no TURN more", x.within(6, false), 9);
        Due.is("within(10, on)", x.within(10, false), 9);
        Due.is("within(11, on)", x.within(11, false), 21);
        Due.is("within(55, on)", x.within(55, false), 189);
        Due.is("within(56, on)", x.within(56, false), 200);
        Due.is("within(999999, on)", x.within(999999, false), 200);
        Due.is("within(999999, back)", x.within(999999, true), 0);
        x.go(100);
        Due.is("LEFT has 6 TURNS (90) to 111", x.within(6, true), 89);
        Due.is("all, on", x.within(999999, false), 200);
        Due.is("all, back", x.within(999999, true), 0);
        Due.is("within(5, back)", x.within(5, true), 100);
        Due.is("within(6, on)", x.within(6, false), 111);
        TwoReels played = Due.told("ramp 40;play 1;");
        Due.is("PLAYED is SOONER", played.within(45, false), 5);
        Due.is("within(39)", played.within(39, false), 0);
        Due.is("within(-1)", x.within(-1, false), BAD);
        Due.is("within(1000000)", x.within(1000000, true), BAD);
    }

    private static void promise14() {
        Due.topic("14 block");
        TwoReels x = Due.told(FOUR);
        int[][] due = {{4, 2, 3, 64, 6}, {10, 1, 0, 0, 11}, {15, 1, 1, 1, 16}, {20, 2, 2, 255, 22}};
        for (int b = 0; b < 4; b++) {
            for (int w = 0; w < 5; w++) Due.is("block(" + b + ", " + w + ")", x.block(b, w), due[b][w]);
        }
        x.spoil(0, 3, 8);
        Due.is("THE ROW as it is now", x.block(0, 3), 320);
        Due.is("block(-1, 0)", x.block(-1, 0), BAD);
        Due.is("block(4, 0)", x.block(4, 0), BAD);
        Due.is("block(0, -1)", x.block(0, -1), BAD);
        Due.is("block(0, 5)", x.block(0, 5), BAD);
        TwoReels y = Due.told("dense 9;gap 0;mark;block 1 2 3 4 5 6 7 8;block 1 2 3 4 5 6 7 8 9;");
        Due.is("9 COLUMNS by 9", y.block(1, 1), 1);
        Due.is("10 COLUMNS by 9", y.block(2, 1), 2);
        Due.is("no gap", y.block(2, 0), 2);
        Due.is("the first one at 0", y.block(0, 0), 0);
    }

    private static void promise15() {
        Due.topic("15 blockAt");
        TwoReels x = Due.told(FOUR);
        int[] at = {NONE, NONE, NONE, NONE, 0, 0, NONE, NONE, NONE, NONE, 1, NONE, NONE, NONE, NONE, 2, NONE};
        for (int p = 0; p < at.length; p++) Due.is("blockAt(" + p + ")", x.blockAt(p), at[p]);
        Due.is("blockAt(21)", x.blockAt(21), 3);
        Due.is("blockAt(22)", x.blockAt(22), NONE);
        Due.is("blockAt(200)", x.blockAt(200), NONE);
        Due.is("blockAt(201)", x.blockAt(201), BAD);
        Due.is("blockAt(-1)", x.blockAt(-1), BAD);
    }

    private static void promise16() {
        Due.topic("16 type");
        TwoReels x = new TwoReels();
        Due.is("type(-1)", x.type(-1), BAD);
        Due.is("type(256)", x.type(256), BAD);
        for (int i = 1; i <= 12; i++) Due.is("type", x.type(i == 1 ? 0 : 255), i);
        Due.is("the 13th", x.type(1), FULL);
        Due.is("type(256), full", x.type(256), BAD);
        Due.is("now(4)", x.now(4), 12);
        x.write(0);
        Due.is("column(0, 0)", x.column(0, 0), 256);
        Due.is("column(0, 11)", x.column(0, 11), 511);
    }

    private static void promise17() {
        Due.topic("17 write");
        TwoReels x = Due.told(FOUR);
        Due.is("nothing is typed", x.write(1), STATE);
        Due.is("write(5), nothing typed", x.write(5), BAD);
        x.go(6);
        x.type(7);
        x.type(8);
        Due.is("write(-1)", x.write(-1), BAD);
        Due.is("write(5)", x.write(5), BAD);
        Due.is("write(1)", x.write(1), 31);
        Due.is("count(0)", x.count(0), 2);
        Due.is("block(1, 0)", x.block(1, 0), 10);
        Due.is("block(1, 1)", x.block(1, 1), 2);
        Due.is("got(1, 1)", x.got(1, 1), 8);
        Due.is("THE HEAD", x.now(0), 12);
        Due.is("nothing is typed", x.now(4), 0);
        x.spoil(1, 0, 0);
        x.type(7);
        Due.is("write(1) anew", x.write(1), 6 + 5 + 10);
        Due.is("check(1)", x.check(1), 0);
        Due.is("block(0, 2) stays", x.block(0, 2), 3);
        writeToTheEnd();
        writeBehindCut();
    }

    private static void writeToTheEnd() {
        TwoReels x = Due.told("length 20;gap 9;");
        x.type(1);
        Due.is("write(0)", x.write(0), 6 + 10);
        x.type(1);
        Due.is("just to the end", x.write(1), 6 + 10);
        Due.is("now(5)", x.now(5), 0);
        Due.is("THE HEAD", x.now(0), 20);
        x.type(1);
        x.type(1);
        Due.is("beyond length", x.write(1), FULL);
        Due.is("behind the end", x.write(2), FULL);
        Due.is("what is typed stays", x.now(4), 2);
        Due.is("BLOCKS stay", x.count(0), 2);
        Due.is("TICKS stay", x.now(1), 32);
        TwoReels twelve = Due.told("mark;".repeat(12));
        Due.is("k 12, nothing typed", twelve.write(12), STATE);
        twelve.type(1);
        Due.is("k 12", twelve.write(12), FULL);
        Due.is("k 13", twelve.write(13), BAD);
        Due.holds("k 11", twelve.write(11) > 0);
    }

    private static void writeBehindCut() {
        TwoReels x = Due.told(FOUR);
        x.cut(0, 3);
        Due.is("BLOCK 0 is nearer", x.block(0, 0), 1);
        Due.is("BLOCK 1 is nearer", x.block(1, 0), 7);
        x.cut(4, 6);
        Due.is("BLOCK 1 is nearer still", x.block(1, 0), 5);
        x.type(1);
        x.write(1);
        Due.is("gap behind the one ahead", x.block(1, 0), 7);
        x.type(1);
        x.write(0);
        Due.is("BLOCK 0 at gap", x.block(0, 0), 4);
        Due.is("count(0)", x.count(0), 1);
    }

    private static void promise18() {
        Due.topic("18 mark");
        TwoReels x = Due.told(FOUR);
        x.type(5);
        Due.is("mark(-1)", x.mark(-1), BAD);
        Due.is("mark(5)", x.mark(5), BAD);
        Due.is("mark(4)", x.mark(4), 21 + 0 + 10 - 5);
        Due.is("what is typed stays", x.now(4), 1);
        Due.is("THE HEAD", x.now(0), 27);
        Due.is("block(4, 2)", x.block(4, 2), 0);
        Due.is("block(4, 1)", x.block(4, 1), 1);
        Due.is("mark(0)", x.mark(0), 6 + 5 + 10);
        Due.is("count(0)", x.count(0), 1);
        Due.is("count(1)", x.count(1), 1);
        TwoReels twelve = Due.told("mark;".repeat(12));
        Due.is("mark(12)", twelve.mark(12), FULL);
        Due.is("mark(13)", twelve.mark(13), BAD);
        TwoReels end = Due.told("length 20;gap 9;mark;mark;");
        Due.is("beyond length", end.mark(2), FULL);
        Due.is("count(0)", end.count(0), 2);
        TwoReels last = Due.told("length 20;gap 19;dense 1;");
        Due.is("just to the end", last.mark(0), Math.min(193, last.ticks(0, 19, 1)) + 10);
        Due.is("now(5)", last.now(5), 0);
    }

    private static void promise19() {
        Due.topic("19 spoil");
        TwoReels x = Due.told(FOUR);
        Due.is("spoil(0, 1, 3)", x.spoil(0, 1, 3), 330);
        Due.is("turned back", x.spoil(0, 1, 3), 322);
        Due.is("the lowest track", x.spoil(0, 0, 0), 320);
        Due.is("the highest track", x.spoil(0, 0, 8), 64);
        Due.is("THE ROW", x.spoil(0, 3, 0), 65);
        Due.is("of the next BLOCK nothing", x.column(2, 0), 1);
        Due.is("spoil(0, 4, 0)", x.spoil(0, 4, 0), BAD);
        Due.is("spoil(0, -1, 0)", x.spoil(0, -1, 0), BAD);
        Due.is("spoil(0, 0, 9)", x.spoil(0, 0, 9), BAD);
        Due.is("spoil(0, 0, -1)", x.spoil(0, 0, -1), BAD);
        Due.is("spoil(0, 0, NONE)", x.spoil(0, 0, NONE), BAD);
        Due.is("a MARK", x.spoil(1, 0, 0), BAD);
        Due.is("spoil(4, 0, 0)", x.spoil(4, 0, 0), BAD);
        Due.is("spoil(-1, 0, 0)", x.spoil(-1, 0, 0), BAD);
    }

    private static void promise20() {
        Due.topic("20 dead");
        TwoReels x = new TwoReels();
        Due.is("dead(0)", x.dead(0), NONE);
        Due.is("dead(8)", x.dead(8), 0);
        Due.is("dead(9)", x.dead(9), BAD);
        Due.is("dead(-1)", x.dead(-1), BAD);
        Due.is("dead(-3)", x.dead(-3), BAD);
        Due.is("dead(-5)", x.dead(-5), BAD);
        Due.is("now(3)", x.now(3), 8);
        Due.is("dead(NONE)", x.dead(NONE), 8);
        Due.is("dead(NONE)", x.dead(NONE), NONE);
    }

    private static void promise21() {
        Due.topic("21 check");
        TwoReels x = Due.told(FOUR);
        for (int b = 0; b < 4; b++) Due.is("check(" + b + ")", x.check(b), 0);
        x.spoil(0, 1, 3);
        Due.is("one bit", x.check(0), 1);
        x.spoil(0, 1, 3);
        x.spoil(0, 3, 8);
        Due.is("one bit in THE ROW", x.check(0), 1);
        x.dead(8);
        Due.is("in THE ROW, its track DEAD: nothing is turned", x.check(0), 3);
        x.dead(NONE);
        x.spoil(0, 3, 7);
        Due.is("two in THE ROW", x.check(0), 3);
        x.spoil(0, 3, 7);
        x.spoil(0, 3, 8);
        x.spoil(0, 0, 1);
        x.spoil(0, 0, 2);
        Due.is("two in a COLUMN", x.check(0), 3);
        x.spoil(0, 0, 2);
        x.spoil(0, 1, 1);
        Due.is("two in a track", x.check(0), 3);
        x.dead(1);
        Due.is("two in the DEAD track", x.check(0), 2);
        x.dead(2);
        Due.is("of an even count none is wrong ACROSS then", x.check(0), 2);
        x.spoil(0, 2, 1);
        Due.is("three, another one DEAD", x.check(0), 3);
        x.dead(1);
        Due.is("three in the DEAD track", x.check(0), 2);
        TwoReels y = Due.told("block 1 2 3;");
        y.spoil(0, 0, 4);
        y.spoil(0, 1, 5);
        y.spoil(0, 3, 5);
        Due.is("two ALONG, one ACROSS", y.check(0), 3);
        Due.is("a MARK", x.check(1), 0);
        Due.is("check(4)", x.check(4), BAD);
        Due.is("check(-1)", x.check(-1), BAD);
    }

    private static void promise22() {
        Due.topic("22 got");
        TwoReels x = Due.told(FOUR);
        Due.is("got(0, 0)", x.got(0, 0), 65);
        Due.is("got(3, 0)", x.got(3, 0), 255);
        Due.is("got(3, 1)", x.got(3, 1), 0);
        x.spoil(0, 1, 3);
        Due.is("mended", x.got(0, 1), 66);
        Due.is("COLUMN stays", x.column(0, 1), 330);
        x.spoil(0, 2, 3);
        Due.is("LOST", x.got(0, 0), NONE);
        Due.is("no such BYTE of a LOST one", x.got(0, 3), BAD);
        x.dead(3);
        Due.is("mended by the track", x.got(0, 1), 66);
        Due.is("got(0, 2)", x.got(0, 2), 67);
        x.dead(5);
        Due.is("mended by a wrong track", x.got(0, 1), 66 ^ 8 ^ 32);
        Due.is("THE ROW is no BYTE", x.got(0, 3), BAD);
        Due.is("got(0, -1)", x.got(0, -1), BAD);
        Due.is("a MARK", x.got(1, 0), BAD);
        Due.is("got(4, 0)", x.got(4, 0), BAD);
        TwoReels y = Due.told("block 1 2;");
        y.spoil(0, 0, 8);
        Due.is("bit 8 mended", y.got(0, 0), 1);
        Due.is("check(0)", y.check(0), 1);
    }

    private static void promise23() {
        Due.topic("23 column");
        TwoReels x = Due.told(FOUR);
        int[] due = {321, 322, 67, 64};
        for (int i = 0; i < 4; i++) Due.is("column(0, " + i + ")", x.column(0, i), due[i]);
        Due.is("column(3, 0)", x.column(3, 0), 511);
        Due.is("column(3, 1)", x.column(3, 1), 256);
        Due.is("column(3, 2)", x.column(3, 2), 255);
        Due.is("column(0, 4)", x.column(0, 4), BAD);
        Due.is("column(0, -1)", x.column(0, -1), BAD);
        Due.is("column(4, 0)", x.column(4, 0), BAD);
        Due.is("a MARK has no COLUMNS", x.column(1, 0), BAD);
        TwoReels y = Due.told("block 1 2 3 4 5 6 7 8 9 10 11 12;block 1;");
        Due.is("the 12th BYTE", y.column(0, 11), 256 + 12);
        Due.is("THE ROW behind it", y.column(0, 12), 12);
        Due.is("of the next BLOCK", y.column(1, 0), 1);
    }

    private static void promise24() {
        Due.topic("24 state");
        TwoReels x = Due.told("block 1 2;mark;block 3 4;block 5 6;block 7 8;");
        for (int w = 0; w < 3; w++) Due.is("state(" + w + ")", x.state(w), 0);
        x.spoil(0, 0, 0);
        x.spoil(2, 0, 0);
        x.spoil(2, 0, 1);
        for (int c = 0; c < 4; c++) x.spoil(3, c / 2, c % 2);
        Due.is("LOST", x.state(0), 4);
        Due.is("FOOLED: RIGHT, but not as written", x.state(1), 8);
        Due.is("MENDED", x.state(2), 1);
        x.dead(7);
        Due.is("LOST, 7 DEAD", x.state(0), 5);
        x.dead(NONE);
        x.spoil(4, 0, 3);
        x.spoil(4, 1, 3);
        x.spoil(4, 1, 4);
        Due.is("MENDED wrongly is FOOLED", x.state(1), 24);
        Due.is("and MENDED", x.state(2), 17);
        TwoReels row = Due.told("block 1 2;");
        row.spoil(0, 0, 8);
        row.spoil(0, 1, 8);
        row.dead(8);
        Due.is("bit 8 is of no BYTE", row.state(1), 0);
        Due.is("mended by the track", row.state(2), 1);
        TwoReels fooled = Due.told("block 5;");
        for (int c = 0; c < 4; c++) fooled.spoil(0, c / 2, c % 2);
        Due.is("the first BYTE of the first BLOCK", fooled.state(1), 1);
        fooled.spoil(0, 1, 2);
        Due.is("MENDED and FOOLED", fooled.state(1) + fooled.state(2), 2);
        Due.is("state(-1)", x.state(-1), BAD);
        Due.is("state(3)", x.state(3), BAD);
    }

    private static void promise25() {
        Due.topic("25 best");
        TwoReels x = Due.told("block 1 2 3;block 4 5 6;");
        Due.is("nothing wrong: the least", x.best(0), 0);
        Due.is("best(1)", x.best(1), 0);
        x.spoil(0, 0, 6);
        x.spoil(1, 2, 6);
        x.dead(2);
        Due.is("best(0)", x.best(0), 6);
        Due.is("best(1)", x.best(1), 0);
        Due.is("the DEAD one stays", x.now(3), 2);
        x.spoil(1, 2, 5);
        Due.is("one stays LOST", x.best(1), 1);
        Due.is("best(0)", x.best(0), 6);
        x.spoil(0, 0, 6);
        Due.is("all alike: the least", x.best(0), 0);
        TwoReels high = Due.told("block 1 2 3;");
        high.spoil(0, 1, 8);
        Due.is("the highest", high.best(0), 8);
        for (int track = 0; track < 9; track++) {
            TwoReels one = Due.told("block 1 2 3;");
            one.spoil(0, 1, track);
            Due.is("a bit of one track", one.best(0), track);
            Due.is("none is LOST", one.best(1), 0);
        }
        Due.is("no BLOCKS", new TwoReels().best(0), 0);
        Due.is("best(-1)", x.best(-1), BAD);
        Due.is("best(2)", x.best(2), BAD);
    }

    private static void promise26() {
        Due.topic("26 order");
        TwoReels x = Due.told(FOUR);
        x.go(60);
        Due.is("order(13, 0)", x.order(13, 0), 78);
        int[] due = {2, 3, 0};
        for (int i = 0; i < 3; i++) Due.is("order(13, " + (10 + i) + ")", x.order(13, 10 + i), due[i]);
        Due.is("order(13, 13)", x.order(13, 13), BAD);
        Due.is("order(13, 1)", x.order(13, 1), BAD);
        Due.is("order(13, 9)", x.order(13, 9), BAD);
        Due.is("order(13, 18)", x.order(13, 18), BAD);
        Due.is("order(13, -1)", x.order(13, -1), BAD);
        Due.is("no such BLOCK", x.order(16, 0), BAD);
        Due.is("order(-1, 0)", x.order(-1, 0), BAD);
        Due.is("order(MIN, 0)", x.order(MIN, 0), BAD);
        Due.is("order(0, 0)", x.order(0, 0), 0);
        Due.is("order(0, 10)", x.order(0, 10), BAD);
        Due.is("THE HEAD stays", x.now(0), 60);
        Due.is("a MARK alone", x.order(2, 10), 1);
        TwoReels twelve = Due.told("ramp 0;hub 99;gap 1;" + "mark;".repeat(12));
        Due.is("all within one TURN", twelve.order(255, 0), 80);
        for (int i = 0; i < 8; i++) Due.is("of several the first by BLOCKS", twelve.order(4095 - 15, 10 + i),
            i + 4);
        Due.is("9 of them", twelve.order(511, 0), STATE);
        Due.is("9 of them, the 7th", twelve.order(511, 17), STATE);
        Due.is("9 of them, no such number", twelve.order(511, 18), BAD);
        Due.is("12 and one there is not", twelve.order(8191, 0), BAD);
    }

    private static void promise27() {
        Due.topic("27 reads");
        TwoReels x = Due.told(FOUR);
        x.go(60);
        Due.is("reads(13)", x.reads(13), 78);
        Due.is("at the end of the last one", x.now(0), 6);
        Due.is("TICKS", x.now(1), 104);
        Due.is("reads(0)", x.reads(0), 0);
        Due.is("THE HEAD stays", x.now(0), 6);
        Due.is("reads(16)", x.reads(16), BAD);
        TwoReels on = Due.told(FOUR);
        Due.holds("reads(12)", on.reads(12) > 0);
        Due.is("at the end of BLOCK 3", on.now(0), 22);
        Due.is("reads(-1)", x.reads(-1), BAD);
        Due.is("reads(1)", x.reads(1), Math.min(x.ticks(6, 4, 2), 23) + 20);
        TwoReels twelve = Due.told("mark;".repeat(12));
        Due.is("9 of them", twelve.reads(511), STATE);
        Due.is("12 and one there is not", twelve.reads(8191), BAD);
        Due.is("now(1)", twelve.now(1), 0);
        Due.holds("8 of them", twelve.reads(4095 - 15) > 0);
    }

    private static void promise28() {
        Due.topic("28 cut");
        TwoReels x = Due.told(FOUR);
        Due.is("cut(-1, 5)", x.cut(-1, 5), BAD);
        Due.is("cut(0, 201)", x.cut(0, 201), BAD);
        Due.is("cut(5, 5)", x.cut(5, 5), BAD);
        Due.is("cut(6, 5)", x.cut(6, 5), BAD);
        Due.is("less than 20 left", x.cut(0, 181), STATE);
        Due.is("rule(0)", x.rule(0), 200);
        x.keep(0);
        Due.is("just 20 left", x.cut(20, 200), 1);
        Due.is("rule(0)", x.rule(0), 20);
        x.back(0);
        Due.is("ahead of BLOCK 0", x.cut(0, 4), 0);
        Due.is("it is nearer", x.block(0, 0), 0);
        x.back(0);
        Due.is("its first PLACE", x.cut(0, 5), 1);
        Due.is("the MARK is BLOCK 0", x.block(0, 0), 5);
        x.back(0);
        Due.is("its last PLACE", x.cut(5, 10), 1);
        Due.is("the MARK is BLOCK 0", x.block(0, 2), 0);
        Due.is("at 5", x.block(0, 0), 5);
        x.back(0);
        Due.is("from its end on", x.cut(6, 10), 0);
        Due.is("the MARK", x.block(1, 0), 6);
        Due.is("BYTES stay", x.got(3, 0), 255);
        x.back(0);
        Due.is("two lost", x.cut(5, 11), 2);
        Due.is("those behind", x.block(1, 2), 2);
        Due.is("FOOLED none", x.state(1), 0);
        headOfCut();
        bytesBehindCut();
    }

    private static void bytesBehindCut() {
        TwoReels x = Due.told("mark;block 1 2 3;block 14 15 16 17 18 19 20 21 22 23 24 25;block 7;");
        x.cut(0, 10);
        Due.is("count(0)", x.count(0), 3);
        for (int i = 0; i < 12; i++) Due.is("got(1, " + i + ")", x.got(1, i), 14 + i);
        for (int i = 0; i < 3; i++) Due.is("got(0, " + i + ")", x.got(0, i), 1 + i);
        Due.is("RIGHT", x.state(0) + x.state(2), 0);
        Due.is("FOOLED none", x.state(1), 0);
    }

    private static void headOfCut() {
        int[] heads = {0, 9, 10, 15, 19, 20, 21, 200};
        int[] due = {0, 9, 10, 10, 10, 10, 11, 190};
        for (int i = 0; i < heads.length; i++) {
            TwoReels x = Due.told(SMALL);
            x.go(heads[i]);
            int ticks = x.now(1);
            x.cut(10, 20);
            Due.is("THE HEAD of " + heads[i], x.now(0), due[i]);
            Due.is("TICKS stay", x.now(1), ticks);
        }
    }

    private static void promise29() {
        Due.topic("29 holds");
        TwoReels x = Due.told("length 20;gap 0;dense 9;");
        Due.is("holds(1)", x.holds(1), 20);
        Due.is("holds(8)", x.holds(8), 20);
        Due.is("holds(9)", x.holds(9), 10);
        Due.is("holds(99)", x.holds(99), 1);
        Due.is("holds(0)", x.holds(0), BAD);
        Due.is("holds(100)", x.holds(100), BAD);
        TwoReels y = Due.told("length 21;gap 9;dense 1;");
        Due.is("a gap ahead of each", y.holds(1), 1);
        TwoReels z = Due.told("length 22;gap 9;dense 1;");
        Due.is("just room for two", z.holds(1), 2);
        Due.is("none", Due.told("length 20;gap 19;dense 1;").holds(1), 0);
        Due.is("at first", new TwoReels().holds(4), 111);
    }

    private static void promise30() {
        Due.topic("30 most");
        TwoReels x = Due.told("length 20;gap 0;dense 9;");
        Due.is("most(0)", x.most(0), 89);
        Due.is("most(1)", x.most(1), 178);
        TwoReels y = Due.told("length 20;gap 99;");
        Due.is("no room: the least", y.most(0), 1);
        Due.is("no BYTES", y.most(1), 0);
        Due.is("at first", new TwoReels().most(0), 97);
        TwoReels last = Due.told("length 25;gap 0;dense 4;");
        Due.is("one of 99", last.most(0), 99);
        Due.is("BYTES", last.most(1), 99);
        Due.is("no more than 99", Due.told("length 111;gap 99;dense 9;").most(1), 99);
        TwoReels first = Due.told("length 20;gap 18;dense 1;");
        Due.is("but one of 1", first.most(0), 1);
        Due.is("BYTES", first.most(1), 1);
        TwoReels second = Due.told("length 20;gap 17;dense 1;");
        Due.is("but one of 2", second.most(0), 2);
        Due.is("BYTES", second.most(1), 2);
        Due.is("most(-1)", x.most(-1), BAD);
        Due.is("most(2)", x.most(2), BAD);
    }

    private static void promise31() {
        Due.topic("31 stream");
        TwoReels x = Due.told("length 20;gap 0;dense 9;");
        Due.is("a host never late", x.stream(5, 2, 0, 1, 0), 100);
        Due.is("its STOPS", x.stream(5, 2, 0, 1, 1), 0);
        Due.is("late", x.stream(5, 2, 100, 1, 0), 420);
        Due.is("its STOPS", x.stream(5, 2, 100, 1, 1), 4);
        Due.is("all in the buffer", x.stream(5, 2, 100, 5, 0), 500);
        Due.is("a buffer for more", x.stream(5, 2, 100, 99, 0), 500);
        Due.is("just ready is in time", x.stream(5, 2, 20, 1, 1), 0);
        Due.is("a TICK late", x.stream(5, 2, 21, 1, 1), 1);
        Due.is("hitch and wait", x.stream(2, 2, 21, 1, 0), 60);
        Due.is("two at once", x.stream(5, 2, 100, 2, 0), 420);
        Due.is("its STOPS, two at once", x.stream(5, 2, 100, 2, 1), 2);
        Due.is("one BLOCK", x.stream(1, 1, 9999, 99, 0), 10);
        Due.is("with a gap", Due.told("gap 3;play 7;").stream(2, 1, 0, 1, 0), 56);
        int[][] bad = {{0, 1, 0, 1, 0}, {100, 1, 0, 1, 0}, {1, 0, 0, 1, 0}, {1, 100, 0, 1, 0}, {1, 1, -1, 1, 0},
            {1, 1, 10000, 1, 0}, {1, 1, 0, 0, 0}, {1, 1, 0, 100, 0}, {1, 1, 0, 1, -1}, {1, 1, 0, 1, 2}};
        for (int[] b : bad) Due.is("a number beyond", x.stream(b[0], b[1], b[2], b[3], b[4]), BAD);
        TwoReels slow = Due.told("play 99;gap 99;hitch 999;");
        Due.is("the longest", slow.stream(99, 99, 9999, 99, 0), 98 * 9999 + 99 * 99 * 198);
    }

    private static void promise32() {
        Due.topic("32 buffer");
        TwoReels x = Due.told("length 20;gap 0;dense 9;");
        Due.is("buffer(5, 2, 100, 0)", x.buffer(5, 2, 100, 0), 1);
        Due.is("buffer(5, 2, 100, 1)", x.buffer(5, 2, 100, 1), 420);
        TwoReels y = Due.told("gap 0;hitch 999;");
        Due.is("hitches cost", y.buffer(4, 1, 20, 0), 3);
        Due.is("these", y.buffer(4, 1, 20, 1), 80);
        Due.is("with 2 it STOPS", y.stream(4, 1, 20, 2, 1), 1);
        Due.is("one BLOCK", y.buffer(1, 1, 5, 0), 1);
        Due.is("as many as there are", y.buffer(2, 1, 20, 0), 2);
        Due.is("two", y.buffer(3, 1, 15, 0), 2);
        Due.is("TICKS with two", y.buffer(3, 1, 15, 1), 45);
        Due.is("one", Due.told("gap 0;hitch 0;").buffer(5, 1, 10, 0), 1);
        Due.is("TICKS with one", Due.told("gap 0;hitch 0;").buffer(5, 1, 10, 1), 50);
        int[][] bad = {{0, 1, 0, 0}, {100, 1, 0, 0}, {1, 0, 0, 0}, {1, 100, 0, 0}, {1, 1, -1, 0}, {1, 1, 10000, 0},
            {1, 1, 0, -1}, {1, 1, 0, 2}};
        for (int[] b : bad) Due.is("a number beyond", x.buffer(b[0], b[1], b[2], b[3]), BAD);
    }

    private static void promise33() {
        Due.topic("33 saw");
        TwoReels x = new TwoReels();
        Due.is("saw(-1, 0)", x.saw(-1, 0), BAD);
        Due.is("saw(1000, 0)", x.saw(1000, 0), BAD);
        Due.is("saw(0, -1)", x.saw(0, -1), BAD);
        Due.is("saw(0, 10000)", x.saw(0, 10000), BAD);
        Due.is("beyond length", x.saw(999, 9999), 1);
        for (int i = 2; i <= 12; i++) Due.is("saw(0, 0)", x.saw(0, 0), i);
        Due.is("the 13th", x.saw(0, 0), FULL);
        Due.is("the 13th, BAD", x.saw(1000, 0), BAD);
        Due.is("count(3)", x.count(3), 12);
    }

    private static void promise34() {
        Due.topic("34 forget");
        TwoReels x = new TwoReels();
        Due.is("forget()", x.forget(), 0);
        x.saw(999, 0);
        x.saw(1, 1);
        Due.is("forget()", x.forget(), 2);
        Due.is("count(3)", x.count(3), 0);
        Due.is("fits(0)", x.fits(0), 855);
        Due.is("saw", x.saw(0, 0), 1);
    }

    private static void promise35() {
        Due.topic("35 fits");
        TwoReels x = new TwoReels();
        Due.is("all pairs", x.fits(0), 855);
        Due.is("fits(1)", x.fits(1), 5);
        Due.is("fits(2)", x.fits(2), 1);
        x.saw(3, 60);
        Due.is("fits(0)", x.fits(0), 66);
        Due.is("fits(1)", x.fits(1), 5);
        Due.is("fits(2)", x.fits(2), 7);
        x.saw(10, 300);
        Due.is("fits(0)", x.fits(0), 8);
        x.saw(0, 999);
        Due.is("no pair", x.fits(0), 0);
        Due.is("fits(1)", x.fits(1), NONE);
        Due.is("fits(2)", x.fits(2), NONE);
        Due.is("fits(-1)", x.fits(-1), BAD);
        Due.is("fits(3)", x.fits(3), BAD);
        x.forget();
        x.saw(1, 99);
        x.saw(0, 98);
        Due.is("hub 99 alone", x.fits(0), 9);
        Due.is("fits(1)", x.fits(1), 99);
        Due.is("fits(2)", x.fits(2), 1);
    }

    private static void promise36() {
        Due.topic("36 keep");
        TwoReels x = used();
        Due.is("keep(-1)", x.keep(-1), BAD);
        Due.is("keep(2)", x.keep(2), BAD);
        Due.is("keep(0)", x.keep(0), 0);
        Due.is("keep(0) again", x.keep(0), 1);
        Due.is("keep(1)", x.keep(1), 1);
        Due.is("count(4)", x.count(4), 2);
        Due.is("BLOCKS stay", x.count(0), 4);
    }

    private static void promise37() {
        Due.topic("37 back");
        TwoReels x = used();
        Due.is("back(-1)", x.back(-1), BAD);
        Due.is("back(2)", x.back(2), BAD);
        Due.is("back(0)", x.back(0), STATE);
        x.spoil(0, 0, 0);
        x.mark(1);
        x.type(8);
        x.dead(1);
        x.saw(2, 2);
        x.cut(0, 50);
        x.lay(0, 2, 78);
        Due.feedText(x, "hub");
        x.keep(0);
        for (int again = 0; again < 2; again++) {
            Due.is("back(1)", x.back(1), 4);
            int[] now = {60, 26, 4, 3, 1, 178};
            for (int w = 0; w < 6; w++) Due.is("now(" + w + ")", x.now(w), now[w]);
            Due.is("rule(0)", x.rule(0), 200);
            Due.is("column(0, 0)", x.column(0, 0), 321);
            Due.is("block(1, 0)", x.block(1, 0), 10);
            Due.is("got(3, 0)", x.got(3, 0), 255);
            Due.is("count(3)", x.count(3), 1);
            Due.is("fits(1): what is SEEN is as it was", x.fits(0), 0);
            x.type(4);
            x.mark(0);
        }
        Due.is("LETTERS stay", x.count(5), 3);
        Due.is("IMAGES stay", x.count(4), 2);
        Due.is("back(0)", x.back(0), 0);
        Due.is("rule(0)", x.rule(0), 150);
        x.forget();
        x.read(0, 1, 2, 1);
        x.write(0);
        Due.is("SHEETS stay", x.got(0, 2), 78);
    }

    private static void promise38() {
        Due.topic("38 sheet");
        TwoReels x = new TwoReels();
        int[][] bad = {{-1, 0, 1}, {4, 0, 1}, {0, -1, 1}, {0, 3, 1}, {0, 0, 41}, {4, 0, -1}, {0, 3, -1}, {0, 0, MAX}};
        for (int[] b : bad) Due.is("a number beyond", x.sheet(b[0], b[1], b[2]), BAD);
        Due.is("sheet(0, 0, -1)", x.sheet(0, 0, -1), -14);
        Due.is("sheet(0, 0, MIN)", x.sheet(0, 0, MIN), -14);
        Due.is("nothing still", x.count(6), NONE);
        for (int k = 0; k < 4; k++) Due.is("sheet", x.sheet(k, k % 3, 40), 1);
        Due.is("count(6)", x.count(6), 40);
        Due.is("no CELLS", x.sheet(0, 2, 0), 1);
        Due.is("count(6)", x.count(6), 0);
        x.sheet(0, 0, 2);
        x.lay(0, 1, 9);
        Due.is("refused", x.sheet(0, 0, -2), -14);
        Due.is("that which was there stays", x.read(0, 0, 1, 1), 1);
        Due.is("anew", x.sheet(0, 0, 2), 1);
        x.read(0, 0, 1, 1);
        x.write(0);
        Due.is("as it was", x.got(0, 0), 9);
        Due.is("CELLS are 0", x.got(0, 1), 0);
        x.sheet(0, 2, 1);
        x.lay(0, 0, 300);
        x.sheet(0, 2, 1);
        Due.is("the first CELL, too", x.read(0, 2, 0, 1), 1);
    }

    private static void promise39() {
        Due.topic("39 lay");
        TwoReels x = new TwoReels();
        Due.is("lay(-1, 0, 0)", x.lay(-1, 0, 0), BAD);
        Due.is("lay(4, 0, 0)", x.lay(4, 0, 0), BAD);
        Due.is("NULL", x.lay(0, 0, 0), -11);
        Due.is("NULL ahead of INDEX", x.lay(0, -1, 0), -11);
        x.sheet(0, 0, 3);
        Due.is("INDEX below", x.lay(0, -1, 0), -12);
        Due.is("INDEX above", x.lay(0, 3, 0), -12);
        Due.is("INDEX far", x.lay(0, MAX, 0), -12);
        Due.is("the last one", x.lay(0, 2, 0), 1);
        for (int k = 0; k < 4; k++) {
            x.sheet(k, 2, 1);
            x.lay(k, 0, 50 + k);
        }
        for (int k = 0; k < 4; k++) x.read(k, 2, 0, 1);
        x.write(0);
        for (int k = 0; k < 4; k++) Due.is("of SHEET " + k, x.got(0, k), 50 + k);
        Due.is("no CELLS", x.sheet(1, 0, 0) * x.lay(1, 0, 0), -12);
        lowestBits(0, 256 + 65, 65);
        lowestBits(0, 128, -21);
        lowestBits(0, -129, 127);
        lowestBits(0, 127, 127);
        lowestBits(1, 65536 + 65, 65);
        lowestBits(1, 128, 128);
        lowestBits(1, 32768, -21);
        lowestBits(1, 256, -21);
        lowestBits(2, 65536 + 65, -21);
        lowestBits(2, 255, 255);
        lowestBits(2, MIN, -21);
        lowestBits(1, MIN, 0);
    }

    /** Due is the BYTE that is read then, or (below 0) what read() answers. */
    private static void lowestBits(int lane, int v, int due) {
        TwoReels x = new TwoReels();
        x.sheet(3, lane, 2);
        x.lay(3, 0, 1);
        Due.is("lay(3, 1, " + v + ")", x.lay(3, 1, v), 1);
        if (due < 0) {
            Due.is("read of " + v, x.read(3, lane, 0, 2), due);
            return;
        }
        Due.is("read of " + v, x.read(3, lane, 1, 1), 1);
        x.write(0);
        Due.is("the BYTE of " + v, x.got(0, 0), due);
    }

    private static void promise40() {
        Due.topic("40 read");
        TwoReels x = new TwoReels();
        x.sheet(0, 1, 20);
        for (int i = 0; i < 20; i++) x.lay(0, i, 200 + i);
        int[][] bad = {{-1, 0, 0, 0}, {4, 0, 0, 0}, {0, -1, 0, 0}, {0, 3, 0, 0}, {0, 1, 0, -1}, {0, 1, 0, 13}};
        for (int[] b : bad) Due.is("a number beyond", x.read(b[0], b[1], b[2], b[3]), BAD);
        Due.is("three", x.read(0, 1, 5, 3), 3);
        Due.is("now(4)", x.now(4), 3);
        x.write(0);
        for (int i = 0; i < 3; i++) Due.is("got", x.got(0, i), 205 + i);
        Due.is("over the end", x.read(0, 1, 18, 5), 2);
        Due.is("those ahead are typed", x.now(4), 2);
        Due.is("torn()", x.torn(), 2);
        Due.is("10 more", x.read(0, 1, 0, 10), 10);
        Due.is("no room", x.read(0, 1, 0, 1), FULL);
        Due.is("no room, but the machine is first", x.read(0, 1, 20, 1), 0);
        Due.is("no BYTE is first", x.lay(0, 0, 256) * x.read(0, 1, 0, 1), -20);
        x.write(0);
        for (int i = 0; i < 11; i++) x.type(1);
        Due.is("room for one of two", x.read(0, 1, 1, 2), FULL);
        Due.is("none is typed", x.now(4), 11);
        Due.is("no room is met first", x.lay(0, 3, -1) * x.read(0, 1, 1, 3), FULL);
        x.write(0);
        Due.is("no BYTE at the third", x.read(0, 1, 1, 3), -22);
        Due.is("none is typed", x.now(4), 0);
        Due.is("n 0 of nothing", x.read(1, 0, -5, 0), 0);
        Due.is("torn()", x.torn(), 0);
        Due.is("f below 0", x.read(0, 1, -1, 3), 0);
        Due.is("f far", x.read(0, 1, MAX, 12), 0);
        Due.is("f far below", x.read(0, 1, MIN, 12), 0);
        Due.is("torn()", x.torn(), 2);
    }

    private static void promise41() {
        Due.topic("41 torn");
        TwoReels x = new TwoReels();
        Due.is("torn()", x.torn(), 0);
        Due.is("nothing", x.read(0, 2, 0, 1), 0);
        Due.is("NULL", x.torn(), 1);
        x.sheet(0, 0, 2);
        Due.is("another lane", x.read(0, 2, 9, 1), 0);
        Due.is("CAST ahead of INDEX", x.torn(), 3);
        x.lay(0, 1, -1);
        Due.is("refused", x.read(0, 0, 0, 2), -21);
        Due.is("it stays", x.torn(), 3);
        Due.is("refused", x.read(0, 0, 0, 13), BAD);
        Due.is("it stays", x.torn(), 3);
        Due.is("read", x.read(0, 0, 0, 1), 1);
        Due.is("none", x.torn(), 0);
        Due.is("read", x.read(0, 0, 2, 1), 0);
        Due.is("INDEX", x.torn(), 2);
        for (int i = 0; i < 11; i++) x.type(1);
        Due.is("full", x.read(0, 0, 0, 1), FULL);
        Due.is("it stays", x.torn(), 2);
        Due.is("of n 0", x.read(0, 2, 0, 0), 0);
        Due.is("none", x.torn(), 0);
    }

    private static void promise42() {
        Due.topic("42 count");
        TwoReels x = used();
        x.mark(4);
        Due.feedText(x, "length 20");
        int[] count = {5, 2, 6, 1, 1, 9, 3};
        for (int w = 0; w < 7; w++) Due.is("count(" + w + ")", x.count(w), count[w]);
        Due.is("count(-1)", x.count(-1), BAD);
        Due.is("count(7)", x.count(7), BAD);
        x.sheet(1, 0, 5);
        Due.is("of SHEET 0", x.count(6), 3);
    }
}
