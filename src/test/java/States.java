/** Objects in which there is something of all, for tests of what a call must leave alone. */
final class States {
    // hub 10, thick 2: so many TURNS have 0, 10, 22, 36, 52, 70, 90, 112, 136, 162, 190 PLACES.
    static final String SMALL = "length 200;hub 10;thick 2;gap 4;";
    // BLOCKS 0 (PLACES 4, 5), 1 (a MARK, 10), 2 (15), 3 (20, 21).
    static final String FOUR = SMALL + "block 65 66 67;mark;block 1;block 255 0;";

    private States() {
    }

    static TwoReels used() {
        TwoReels x = new TwoReels();
        use(x);
        return x;
    }

    static TwoReels full() {
        TwoReels x = new TwoReels();
        fill(x);
        return x;
    }

    /**
     * FOUR, BLOCK 0 mended by track 3 (it is DEAD), 2 LOST, 3 FOOLED; two BYTES typed; IMAGE 1, with another HEAD,
     * BYTE, track and BLOCK 3; SHEETS 0 (65, no BYTE, 0), 1 (no BYTE, 0), 2 (200) and no 3; LETTERS; both FAULTS.
     */
    static void use(Object x) {
        tell(x, FOUR);
        ask(x, "type", 1);
        ask(x, "saw", 1, 12);
        ask(x, "go", 100);
        ask(x, "spoil", 3, 0, 0);
        ask(x, "keep", 1);
        ask(x, "go", 60);
        ask(x, "dead", 3);
        ask(x, "type", 2);
        ask(x, "saw", 2, 25);
        int[][] spoiled = {{0, 1, 3}, {0, 2, 3}, {2, 0, 1}, {2, 0, 2}, {3, 0, 1}, {3, 1, 0}, {3, 1, 1}};
        for (int[] s : spoiled) ask(x, "spoil", s[0], s[1], s[2]);
        ask(x, "sheet", 0, 0, 3);
        ask(x, "lay", 0, 0, 65);
        ask(x, "lay", 0, 1, -1);
        ask(x, "sheet", 1, 1, 2);
        ask(x, "lay", 1, 0, 300);
        ask(x, "sheet", 2, 2, 1);
        ask(x, "lay", 2, 0, 200);
        ask(x, "read", 3, 0, 0, 1);
        tell(x, "hub 4;");
        Calls.feedText(x, "hub 7;mark;");
    }

    /** 12 BLOCKS (MARKS, but the first), 12 BYTES, 12 SEEN, 400 LETTERS, both IMAGES, THE HEAD at the end. */
    static void fill(Object x) {
        tell(x, "length 65;gap 4;dense 1;block 1 2 3;" + "mark;".repeat(11));
        ask(x, "go", 65);
        ask(x, "keep", 0);
        for (int i = 0; i < 12; i++) ask(x, "type", 100 + i);
        for (int i = 0; i < 12; i++) ask(x, "saw", 0, i);
        ask(x, "keep", 1);
        for (int k = 0; k < 4; k++) ask(x, "sheet", k, k % 3, k == 3 ? 20 : 2);
        ask(x, "lay", 3, 19, 7);
        Calls.feedText(x, "hub 9;" + " ".repeat(394));
    }

    private static void tell(Object x, String text) {
        Calls.feedText(x, text);
        ask(x, "text");
    }

    private static int ask(Object x, String call, long... numbers) {
        return Calls.ask(x, call, numbers);
    }
}
