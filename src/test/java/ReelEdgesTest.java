/** Reels and TICKS (promises 7 to 13): the edges that the document names, a method a sentence. */
public final class ReelEdgesTest {
    private static final int BAD = TwoReels.BAD, NONE = TwoReels.NONE;
    private static final int MIN = Integer.MIN_VALUE, MAX = Integer.MAX_VALUE;
    // length, hub, thick: the least and the greatest of each.
    private static final int[][] REELS = {{9999, 5, 1}, {9999, 5, 9}, {9999, 99, 1}, {9999, 99, 9}, {20, 5, 1},
        {20, 99, 9}, {20, 5, 9}, {200, 10, 2}, {190, 10, 2}, {189, 10, 2}, {191, 10, 2}, {1000, 20, 2}, {1000, 21, 2}};

    public static void main(String[] args) {
        turnsAreTheMostThatItHasWhole();
        turnsOfBothReels();
        turnsFollowACut();
        showsTheFirstAndTheLast();
        showsNowhere();
        meetsAtTheFirst();
        theSamePlaceTakesNoTicks();
        playedForEachPlace();
        woundForEachTurn();
        soonerIsTheLesser();
        theMostTicks();
        goesToEachEnd();
        nowAtBothEnds();
        ticksSoFar();
        ticksOfAsManyCallsAsThereAre();
        withinNoTicks();
        withinOn();
        withinBack();
        withinIsTheFarthest();
        Due.close();
    }

    private static TwoReels reeled(int[] reel, String more) {
        return Due.told("length " + reel[0] + ";hub " + reel[1] + ";thick " + reel[2] + ";" + more);
    }

    /** What so many TURNS hold: each has thick more than the one below it, the first one has hub. */
    private static int held(int turns, int[] reel) {
        int sum = 0;
        for (int below = 0; below < turns; below++) sum += reel[1] + reel[2] * below;
        return sum;
    }

    private static int turnsOf(int amount, int[] reel) {
        int n = 0;
        while (held(n + 1, reel) <= amount) n++;
        return n;
    }

    private static void turnsAreTheMostThatItHasWhole() {
        Due.topic("TURNS: the most that it has whole");
        for (int[] reel : REELS) {
            TwoReels right = reeled(reel, "");
            TwoReels left = reeled(reel, "");
            int n = 1;
            while (held(n, reel) <= reel[0]) {
                Due.is("RIGHT, just " + n, right.turns(held(n, reel), false), n);
                Due.is("RIGHT, one PLACE less", right.turns(held(n, reel) - 1, false), n - 1);
                Due.is("LEFT, just " + n, left.turns(reel[0] - held(n, reel), true), n);
                Due.is("LEFT, one PLACE less", left.turns(reel[0] - held(n, reel) + 1, true), n - 1);
                n++;
            }
            Due.is("all is RIGHT", right.turns(reel[0], false), n - 1);
            Due.is("all is LEFT", left.turns(0, true), n - 1);
        }
    }

    private static void turnsOfBothReels() {
        Due.topic("TURNS: the first PLACE and the last");
        for (int[] reel : REELS) {
            TwoReels x = reeled(reel, "");
            Due.is("RIGHT at 0", x.turns(0, false), 0);
            Due.is("LEFT at length", x.turns(reel[0], true), 0);
            for (int place : new int[] {MIN, -1, reel[0] + 1, MAX}) {
                Due.is("RIGHT at " + place, x.turns(place, false), BAD);
                Due.is("LEFT at " + place, x.turns(place, true), BAD);
            }
        }
    }

    private static void turnsFollowACut() {
        Due.topic("TURNS behind a CUT");
        TwoReels x = Due.told(States.SMALL);
        x.cut(0, 10);
        Due.is("LEFT has 190", x.turns(0, true), 10);
        Due.is("the last PLACE", x.turns(190, false), 10);
        Due.is("it was one", x.turns(191, false), BAD);
        x.cut(189, 190);
        Due.is("LEFT has 189", x.turns(0, true), 9);
    }

    private static void showsTheFirstAndTheLast() {
        Due.topic("shows: the first PLACE, the last one");
        for (int[] reel : REELS) {
            TwoReels x = reeled(reel, "");
            int most = turnsOf(reel[0], reel);
            for (int c = 0; c <= most; c++) {
                Due.is("first of " + c, x.shows(c, 0), held(c, reel));
                Due.is("last of " + c, x.shows(c, 1), Math.min(reel[0], held(c + 1, reel) - 1));
            }
            for (int c = most + 1; c < most + 9; c++) {
                Due.is("first of " + c, x.shows(c, 0), NONE);
                Due.is("last of " + c, x.shows(c, 1), NONE);
            }
        }
    }

    private static void showsNowhere() {
        Due.topic("shows: nowhere, and no counter");
        for (int[] reel : REELS) {
            TwoReels x = reeled(reel, "");
            // Reckoned in an int, what so many TURNS hold could come out small again.
            for (int c : new int[] {137, 9999, 10000, 32768, 46340, 46341, 65536, 92682, 1 << 30, MAX - 1, MAX}) {
                Due.is("shows(" + c + ", 0)", x.shows(c, 0), NONE);
                Due.is("shows(" + c + ", 1)", x.shows(c, 1), NONE);
            }
            for (int c : new int[] {-1, -2, -65536, MIN}) {
                Due.is("shows(" + c + ", 0)", x.shows(c, 0), BAD);
                Due.is("shows(" + c + ", 1)", x.shows(c, 1), BAD);
            }
        }
    }

    private static void meetsAtTheFirst() {
        Due.topic("meet: no fewer TURNS");
        for (int[] reel : REELS) {
            for (int less = 0; less < 12 && reel[0] - less >= 20; less++) {
                int length = reel[0] - less;
                int first = 0;
                while (turnsOf(first, reel) < turnsOf(length - first, reel)) first++;
                TwoReels x = reeled(new int[] {length, reel[1], reel[2]}, "");
                Due.is("meet of length " + length + ", hub " + reel[1] + ", thick " + reel[2], x.meet(), first);
            }
        }
        Due.is("no TURN on either reel", Due.told("length 98;hub 99;").meet(), 0);
        Due.is("one TURN at 0", Due.told("length 99;hub 99;").meet(), 1);
        Due.is("just as many", Due.told("length 20;hub 10;").meet(), 10);
    }

    private static void theSamePlaceTakesNoTicks() {
        Due.topic("TICKS: the same PLACE");
        for (int[] reel : REELS) {
            TwoReels x = reeled(reel, "ramp 99;");
            for (int what = 0; what < 3; what++) {
                for (int place : new int[] {0, 1, 10, reel[0] - 1, reel[0]}) {
                    Due.is("ticks(" + place + ", " + place + ", " + what + ")", x.ticks(place, place, what), 0);
                }
            }
        }
    }

    private static void playedForEachPlace() {
        Due.topic("TICKS: PLAYED");
        TwoReels x = Due.told("length 200;ramp 7;play 3;");
        for (int more = 1; more <= 200; more += more < 3 ? 1 : 197) {
            Due.is("on " + more, x.ticks(0, more, 0), 7 + 3 * more);
            Due.is("back " + more, x.ticks(200, 200 - more, 0), 7 + 3 * more);
        }
        Due.is("no ramp", Due.told("ramp 0;play 1;").ticks(5, 6, 0), 1);
    }

    private static void woundForEachTurn() {
        Due.topic("TICKS: WOUND");
        TwoReels x = Due.told(States.SMALL);
        int[][] due = {{0, 1, 6}, {0, 9, 6}, {0, 10, 11}, {9, 10, 11}, {10, 21, 6}, {10, 22, 11}, {0, 189, 51},
            {0, 190, 56}, {0, 200, 56}, {190, 200, 6}, {200, 199, 6}, {200, 191, 6}, {200, 190, 11}, {191, 190, 11},
            {190, 179, 6}, {190, 178, 11}, {200, 11, 51}, {200, 10, 56}, {200, 0, 56}, {10, 0, 6}, {11, 10, 11}};
        for (int[] d : due) Due.is("ticks(" + d[0] + ", " + d[1] + ", 1)", x.ticks(d[0], d[1], 1), d[2]);
        TwoReels flat = Due.told("length 200;hub 10;thick 2;ramp 0;wind 99;");
        Due.is("no ramp, no TURN", flat.ticks(0, 9, 1), 0);
        Due.is("no ramp, a TURN", flat.ticks(9, 10, 1), 99);
    }

    private static void soonerIsTheLesser() {
        Due.topic("TICKS: SOONER");
        TwoReels x = Due.told("length 200;hub 10;thick 2;ramp 5;play 10;wind 5;");
        Due.is("both are 15", x.ticks(9, 10, 0) + x.ticks(9, 10, 1), 30);
        Due.is("alike", x.ticks(9, 10, 2), 15);
        TwoReels ramps = Due.told("length 200;hub 10;thick 2;ramp 50;play 10;wind 5;");
        Due.is("PLAYED", ramps.ticks(0, 4, 2), 90);
        Due.is("alike", ramps.ticks(0, 5, 2), 100);
        Due.is("WOUND", ramps.ticks(0, 6, 2), 100);
        Due.is("WOUND back", ramps.ticks(200, 194, 2), 100);
        Due.is("PLAYED back", ramps.ticks(200, 196, 2), 90);
        Due.is("no ramp, no TURN", Due.told("ramp 0;").ticks(0, 19, 2), 0);
    }

    private static void theMostTicks() {
        Due.topic("TICKS: the most");
        TwoReels x = Due.told("length 9999;hub 5;thick 1;ramp 99;play 99;wind 99;");
        Due.is("PLAYED", x.ticks(0, 9999, 0), 990000);
        Due.is("PLAYED back", x.ticks(9999, 0, 0), 990000);
        Due.is("WOUND", x.ticks(0, 9999, 1), 198 + 99 * 136);
        Due.is("WOUND back", x.ticks(9999, 0, 1), 198 + 99 * 136);
    }

    private static void goesToEachEnd() {
        Due.topic("go: the first PLACE and the last");
        TwoReels x = Due.told(States.SMALL);
        Due.is("go(0) from 0", x.go(0), 0);
        Due.is("go(200)", x.go(200), 56);
        Due.is("go(200) again", x.go(200), 0);
        for (int place : new int[] {MIN, -1, 201, MAX}) Due.is("go(" + place + ")", x.go(place), BAD);
        Due.is("THE HEAD stays", x.now(0), 200);
        Due.is("go(0)", x.go(0), 56);
        Due.is("TICKS", x.now(1), 112);
        x.cut(100, 150);
        Due.is("the last one behind a CUT", x.go(150), x.ticks(0, 150, 2));
        Due.is("it was one", x.go(151), BAD);
    }

    private static void nowAtBothEnds() {
        Due.topic("now");
        TwoReels x = Due.told(States.SMALL);
        Due.is("THE COUNTER at 0", x.now(2), 0);
        Due.is("no BLOCKS: all PLACES", x.now(5), 200);
        x.go(200);
        Due.is("THE HEAD", x.now(0), 200);
        Due.is("THE COUNTER at length", x.now(2), 10);
        x.go(189);
        Due.is("THE COUNTER a PLACE ahead of a TURN", x.now(2), 9);
        for (int typed = 0; typed <= 12; typed++) {
            Due.is("BYTES typed", x.now(4), typed);
            x.type(typed);
        }
        Due.is("12 at most", x.now(4), 12);
        TwoReels y = Due.told("length 20;gap 19;mark;");
        Due.is("no PLACE behind it", y.now(5), 0);
        for (int what : new int[] {MIN, -1, 6, MAX}) Due.is("now(" + what + ")", x.now(what), BAD);
    }

    private static void ticksSoFar() {
        Due.topic("now: TICKS so far");
        TwoReels x = Due.told(States.FOUR);
        int sum = x.go(90);
        Due.is("of go()", x.now(1), sum);
        x.type(1);
        sum += x.write(4);
        Due.is("of write()", x.now(1), sum);
        sum += x.mark(5);
        Due.is("of mark()", x.now(1), sum);
        sum += x.reads(13);
        Due.is("of reads()", x.now(1), sum);
        x.ticks(0, 200, 0);
        x.order(13, 0);
        x.within(50, true);
        x.stream(5, 2, 30, 2, 0);
        x.buffer(5, 2, 30, 1);
        x.cut(30, 60);
        x.go(201);
        x.write(9);
        x.mark(9);
        x.reads(64);
        Due.is("of no other call, nor of a refused one", x.now(1), sum);
    }

    private static void ticksOfAsManyCallsAsThereAre() {
        Due.topic("now: TICKS of 512 calls");
        TwoReels x = Due.told("length 9999;hub 5;thick 1;ramp 99;play 99;wind 99;");
        int calls = 10;
        int sum = 0;
        while (calls < 511) {
            sum += x.go(calls % 2 == 0 ? 9999 : 0);
            calls++;
        }
        Due.is("TICKS", x.now(1), sum);
        Due.is("each way takes the most", sum, 501 * (198 + 99 * 136));
    }

    private static void withinNoTicks() {
        Due.topic("within: 0 TICKS");
        TwoReels x = Due.told(States.SMALL);
        for (int place : new int[] {0, 1, 100, 199, 200}) {
            x.go(place);
            Due.is("on from " + place, x.within(0, false), place);
            Due.is("back from " + place, x.within(0, true), place);
        }
        TwoReels flat = Due.told("length 200;hub 10;thick 2;ramp 0;");
        Due.is("no ramp: to the end of the TURN", flat.within(0, false), 9);
        flat.go(10);
        Due.is("from its first PLACE", flat.within(0, false), 21);
        Due.is("back, LEFT has 190: to its last PLACE", flat.within(0, true), 0);
        flat.go(100);
        Due.is("back, LEFT has 100, to 111", flat.within(0, true), 89);
    }

    private static void withinOn() {
        Due.topic("within: farthest on");
        TwoReels x = Due.told(States.SMALL);
        int[][] due = {{1, 0}, {5, 0}, {6, 9}, {10, 9}, {11, 21}, {15, 21}, {16, 35}, {50, 161}, {51, 189}, {55, 189},
            {56, 200}, {57, 200}, {999999, 200}};
        for (int[] d : due) Due.is("within(" + d[0] + ", on)", x.within(d[0], false), d[1]);
        Due.is("back of 0", x.within(999999, true), 0);
        TwoReels played = Due.told("ramp 40;play 1;");
        int[][] sooner = {{40, 0}, {41, 1}, {59, 19}, {79, 39}, {80, 40}, {85, 45}};
        for (int[] d : sooner) Due.is("PLAYED, within(" + d[0] + ", on)", played.within(d[0], false), d[1]);
        TwoReels slow = Due.told("length 9999;hub 5;thick 1;ramp 99;play 99;wind 99;");
        Due.is("just all", slow.within(198 + 99 * 136, false), 9999);
        Due.is("one TICK less", slow.within(198 + 99 * 136 - 1, false), 9859);
        for (int y : new int[] {MIN, -1, 1000000, MAX}) Due.is("within(" + y + ", on)", x.within(y, false), BAD);
    }

    private static void withinBack() {
        Due.topic("within: farthest back");
        TwoReels x = Due.told(States.SMALL);
        x.go(200);
        int[][] due = {{1, 200}, {5, 200}, {6, 191}, {10, 191}, {11, 179}, {15, 179}, {16, 165}, {50, 39}, {51, 11},
            {55, 11}, {56, 0}, {57, 0}, {999999, 0}};
        for (int[] d : due) Due.is("within(" + d[0] + ", back)", x.within(d[0], true), d[1]);
        Due.is("on of length", x.within(999999, false), 200);
        for (int y : new int[] {MIN, -1, 1000000, MAX}) Due.is("within(" + y + ", back)", x.within(y, true), BAD);
    }

    /** From some PLACES, for some TICKS: of all PLACES the farthest that ticks() allows. */
    private static void withinIsTheFarthest() {
        Due.topic("within: of all PLACES");
        for (int place = 0; place <= 60; place += 15) {
            for (int y = 0; y < 60; y += 3) {
                TwoReels x = Due.told("length 60;hub 5;thick 1;ramp 4;play 2;wind 7;");
                x.go(place);
                int last = place;
                int first = place;
                for (int to = 0; to <= 60; to++) {
                    if (x.ticks(place, to, 2) > y) continue;
                    last = Math.max(last, to);
                    first = Math.min(first, to);
                }
                Due.is("from " + place + " on, " + y, x.within(y, false), last);
                Due.is("from " + place + " back, " + y, x.within(y, true), first);
            }
        }
    }
}
