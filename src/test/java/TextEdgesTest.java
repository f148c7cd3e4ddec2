/** THE LETTERS, TOKENS, lines, FAULTS (promises 1 to 6): the edges that the document names, a method a sentence. */
public final class TextEdgesTest {
    private static final int BAD = TwoReels.BAD, STATE = TwoReels.STATE, FULL = TwoReels.FULL, NONE = TwoReels.NONE;
    private static final int MIN = Integer.MIN_VALUE, MAX = Integer.MAX_VALUE;
    private static final long BLANKS = 0x2020202020202020L;
    private static final String TWELVE_BYTES = "block 1 2 3 4 5 6 7 8 9 10 11 12";

    public static void main(String[] args) {
        lettersHave400Bytes();
        placesAreFrom0();
        eightBytesTheHighestFirst();
        bytesComeBehind();
        lettersKeepTheirFirst();
        lettersAreNoneBehindText();
        everyByteWhereALineBegins();
        everyByteWhereTokensMeet();
        blanksAsManyAsWanted();
        blanksThatAreNeeded();
        numbersHaveOneToFourFigures();
        aNumberTooLongIsNoToken();
        namesThatBeginNoLine();
        tokensThatCanNotStandThere();
        theEndWhereATokenIsDue();
        rulesLeastAndGreatest();
        rulesForTheSecondTime();
        bytesOfABlock();
        twelveBlocks();
        blocksUpToTheEnd();
        theFirstFaultMet();
        howManyLines();
        whatItDoesNotTellIsAsAtFirst();
        whatThereWasIsGone();
        faultOfTheLatest();
        Due.close();
    }

    private static void takes(String text, int lines) {
        TwoReels x = new TwoReels();
        Due.is("text \"" + text + "\"", Due.tell(x, text), lines);
        Due.is("its FAULT", x.fault(), 0);
    }

    private static void lettersHave400Bytes() {
        Due.topic("LETTERS: 400 bytes");
        Due.is("the first eight", new TwoReels().feed(BLANKS), 8);
        for (int n = 384; n <= 400; n++) {
            TwoReels x = new TwoReels();
            for (int i = 0; i < 50; i++) x.feed(BLANKS);
            x.end(n);
            Due.is("feed behind " + n, x.feed(BLANKS), n <= 392 ? n + 8 : FULL);
            Due.is("LETTERS then", x.count(5), n <= 392 ? n + 8 : n);
        }
        takes(" ".repeat(395) + "mark;", 1);
        takes("gap 7;" + " ".repeat(388) + "hub 7;", 2);
        takes(" ".repeat(400), 0);
    }

    private static void placesAreFrom0() {
        Due.topic("LETTERS: places from 0");
        for (int place : new int[] {0, 1, 7, 8, 199, 391, 392, 399}) {
            Due.refuses(" ".repeat(place) + "#" + " ".repeat(399 - place), place, 1);
            Due.refuses(" ".repeat(place) + "#", place, 1);
        }
        Due.refuses(" ".repeat(396) + "mark", 400, 2);
        Due.refuses(" ".repeat(399) + ";", 399, 2);
        Due.refuses("hub 4;", 4, 3);
    }

    private static void eightBytesTheHighestFirst() {
        Due.topic("feed: the highest first");
        for (int i = 0; i < 8; i++) {
            int shift = 56 - 8 * i;
            TwoReels x = new TwoReels();
            x.feed(BLANKS & ~(255L << shift) | 1L << shift);
            Due.is("byte " + i, x.text(), -10 - i);
            TwoReels above = new TwoReels();
            above.feed(BLANKS & ~(255L << shift) | 255L << shift);
            Due.is("byte " + i + " of 255", above.text(), -10 - i);
        }
        TwoReels x = new TwoReels();
        x.feed(0x687562202037203BL);
        Due.is("eight in their order", x.text(), 1);
        Due.is("rule(1)", x.rule(1), 7);
        for (long v : new long[] {0, -1, Long.MIN_VALUE, Long.MAX_VALUE}) {
            TwoReels wild = new TwoReels();
            Due.is("feed(" + v + ")", wild.feed(v), 8);
            Due.is("no TOKEN", wild.text(), -10);
        }
    }

    private static void bytesComeBehind() {
        Due.topic("feed: behind THE LETTERS");
        TwoReels x = new TwoReels();
        x.feed(Due.eights("hub 7;  ")[0]);
        Due.is("eight more", x.feed(Due.eights("gap 3;  ")[0]), 16);
        Due.is("both", x.text(), 2);
        Due.is("rule(1)", x.rule(1), 7);
        Due.is("rule(6)", x.rule(6), 3);
        x.feed(Due.eights("hub 8;  ")[0]);
        x.end(4);
        Due.is("behind those that are kept", x.feed(Due.eights("9;mark; ")[0]), 12);
        Due.is("text()", x.text(), 2);
        Due.is("rule(1)", x.rule(1), 9);
    }

    private static void lettersKeepTheirFirst() {
        Due.topic("end: the first n");
        for (int n = 0; n <= 16; n++) {
            TwoReels x = new TwoReels();
            x.feed(BLANKS);
            x.feed(BLANKS);
            Due.is("end(" + n + ")", x.end(n), 16);
            Due.is("LETTERS then", x.count(5), n);
            Due.is("one more", x.end(n + 1), BAD);
            Due.is("as many as there are", x.end(n), n);
        }
        TwoReels x = new TwoReels();
        Due.is("none of none", x.end(0), 0);
        Due.is("one of none", x.end(1), BAD);
        for (int i = 0; i < 50; i++) x.feed(BLANKS);
        for (int n : new int[] {MIN, -1, 401, MAX}) Due.is("end(" + n + ")", x.end(n), BAD);
        Due.is("all of 400", x.end(400), 400);
        Due.is("one less", x.end(399), 400);
    }

    private static void lettersAreNoneBehindText() {
        Due.topic("text: LETTERS none then");
        TwoReels x = new TwoReels();
        String[] texts = {"mark;", "", "   ", "mark", "#", "gap 100;", "gap 1;gap 1;", "length 20;gap 20;mark;"};
        for (String text : texts) {
            Due.tell(x, text);
            Due.is("LETTERS behind \"" + text + "\"", x.count(5), 0);
            Due.is("end(0)", x.end(0), 0);
            Due.is("end(1)", x.end(1), BAD);
            Due.is("text() anew", x.text(), 0);
            Due.is("its FAULT", x.fault(), 0);
        }
    }

    /** Blanks are 32 alone, NAMES a to z, NUMBERS 0 to 9, the sign ; alone. */
    private static void everyByteWhereALineBegins() {
        Due.topic("each byte, a line begins");
        for (int c = 0; c < 256; c++) {
            String text = String.valueOf((char) c);
            if (c == ' ') takes(text, 0);
            else Due.refuses(text, 0, isToken(c) ? 2 : 1);
            if (c == ' ') takes("mark;" + text, 1);
            else Due.refuses("mark;" + text, 5, isToken(c) ? 2 : 1);
        }
    }

    private static void everyByteWhereTokensMeet() {
        Due.topic("each byte, between TOKENS");
        for (int c = 0; c < 256; c++) {
            String text = "block 1" + (char) c + "2;";
            if (c == ' ' || c == '0') takes(text, 1);
            else if (c >= '1' && c <= '9') takes("block 1" + (char) c + ";", 1);
            else Due.refuses(text, c == ';' ? 8 : 7, isToken(c) ? 2 : 1);
            String named = "hub" + (char) c + "5;";
            if (c == ' ' || c >= '0' && c <= '9') takes(named, 1);
            else if (c >= 'a' && c <= 'z') Due.refuses(named, 0, 2);
            else Due.refuses(named, 3, c == ';' ? 2 : 1);
        }
    }

    private static boolean isToken(int c) {
        return c >= 'a' && c <= 'z' || c >= '0' && c <= '9' || c == ';';
    }

    private static void blanksAsManyAsWanted() {
        Due.topic("blanks, as many as wanted");
        for (int n = 0; n < 30; n += n < 3 ? 1 : 13) {
            String s = " ".repeat(n);
            String line = String.join(s, "", "hub", "7", ";", "block", "1", " ", "2", ";", "mark", ";", "");
            TwoReels x = new TwoReels();
            Due.is(n + " blanks", Due.tell(x, line), 3);
            Due.is("rule(1)", x.rule(1), 7);
            Due.is("BYTES", x.block(0, 2), 2);
        }
        takes(" ".repeat(200) + "mark;" + " ".repeat(195), 1);
        takes("mark" + " ".repeat(395) + ";", 1);
    }

    private static void blanksThatAreNeeded() {
        Due.topic("blanks that are needed");
        Due.refuses("markmark;", 0, 2);
        Due.refuses("hubgap 7;", 0, 2);
        Due.refuses("mark mark;", 5, 2);
        Due.refuses("ma rk;", 0, 2);
        Due.refuses("gap 1 0;", 6, 2);
        TwoReels x = Due.told("block 12;block 1 2;gap7;");
        Due.is("one NUMBER", x.block(0, 2), 1);
        Due.is("it is 12", x.got(0, 0), 12);
        Due.is("two NUMBERS", x.block(1, 2), 2);
        Due.is("NAME and NUMBER", x.rule(6), 7);
        Due.refuses("gap7mark;", 4, 2);
        takes("gap7;mark;block0;", 3);
    }

    private static void numbersHaveOneToFourFigures() {
        Due.topic("NUMBERS: 1 to 4 figures");
        for (String n : new String[] {"7", "07", "007", "0007"}) {
            TwoReels x = Due.told("hitch " + n + ";block " + n + " " + n + ";");
            Due.is("hitch " + n, x.rule(8), 7);
            Due.is("BYTE " + n, x.got(0, 1), 7);
        }
        TwoReels x = Due.told("length 9999;hitch 0000;gap 0;block 0000 0255;");
        Due.is("length", x.rule(0), 9999);
        Due.is("hitch", x.rule(8), 0);
        Due.is("BYTE 0", x.got(0, 0), 0);
        Due.is("BYTE 1", x.got(0, 1), 255);
        Due.is("each figure has its place", Due.told("length 1234;").rule(0), 1234);
        Due.is("and each one its value", Due.told("length 9876;").rule(0), 9876);
        Due.is("hitch 503", Due.told("hitch 503;").rule(8), 503);
    }

    private static void aNumberTooLongIsNoToken() {
        Due.topic("FAULT 1: a NUMBER too long");
        Due.refuses("hitch 00000;", 6, 1);
        Due.refuses("length 10000;", 7, 1);
        Due.refuses("length   10000;", 9, 1);
        Due.refuses("block 00001;", 6, 1);
        Due.refuses("block 1 22222;", 8, 1);
        Due.refuses("12345", 0, 1);
        Due.refuses("mark 12345;", 5, 1);
        Due.refuses("mark;12345", 5, 1);
        Due.refuses("hub 5 12345;", 6, 1);
        Due.refuses("hub 4294967301;", 4, 1);
        Due.refuses("hub " + "0".repeat(395) + "7", 4, 1);
        Due.refuses(TWELVE_BYTES + " 13000;", 33, 1);
        Due.refuses("12345a", 0, 1);
    }

    private static void namesThatBeginNoLine() {
        Due.topic("FAULT 2: a NAME that begins no line");
        String[] names = {"length", "hub", "thick", "play", "wind", "ramp", "gap", "dense", "hitch", "block", "mark"};
        for (String name : names) {
            String less = name.substring(0, name.length() - 1);
            String other = (name.charAt(0) == 'z' ? 'y' : 'z') + name.substring(1);
            for (String no : new String[] {less, name + "s", name + name, other, less + "z", "x" + name}) {
                Due.refuses(no + " 20;", 0, 2);
                Due.refuses("mark;  " + no, 7, 2);
            }
        }
        Due.refuses("a", 0, 2);
        Due.refuses("z".repeat(400), 0, 2);
        Due.refuses("HUB 5;", 0, 1);
    }

    private static void tokensThatCanNotStandThere() {
        Due.topic("FAULT 2: a TOKEN that can not stand there");
        Due.refuses(";", 0, 2);
        Due.refuses("7", 0, 2);
        Due.refuses("mark;;", 5, 2);
        Due.refuses("mark;7;", 5, 2);
        Due.refuses("mark 7;", 5, 2);
        Due.refuses("mark block 7;", 5, 2);
        Due.refuses("block;", 5, 2);
        Due.refuses("block mark;", 6, 2);
        Due.refuses("block 7 mark;", 8, 2);
        Due.refuses("block 7 block 8;", 8, 2);
        for (int r = 0; r < 9; r++) {
            String name = Due.RULES[r];
            String line = name + " " + Due.RULES_LEAST[r];
            Due.refuses(name + ";", name.length(), 2);
            Due.refuses(name + " mark;", name.length() + 1, 2);
            Due.refuses(name + " " + name + " 20;", name.length() + 1, 2);
            Due.refuses(line + " 20;", line.length() + 1, 2);
            Due.refuses(line + " mark;", line.length() + 1, 2);
        }
    }

    private static void theEndWhereATokenIsDue() {
        Due.topic("FAULT 2: the end");
        String[] cut = {"mark", "block", "block 7", TWELVE_BYTES, "mark;mark", "hub", "hub 7", "mark;block 1 2"};
        for (String text : cut) {
            Due.refuses(text, text.length(), 2);
            Due.refuses(text + "   ", text.length() + 3, 2);
        }
        for (int r = 0; r < 9; r++) {
            Due.refuses(Due.RULES[r], Due.RULES[r].length(), 2);
            String line = Due.RULES[r] + " " + Due.RULES_LEAST[r];
            Due.refuses(line, line.length(), 2);
        }
    }

    private static void rulesLeastAndGreatest() {
        Due.topic("RULES: least and greatest");
        for (int r = 0; r < 9; r++) {
            int[] taken = {Due.RULES_LEAST[r], Due.RULES_LEAST[r] + 1, Due.RULES_MOST[r] - 1, Due.RULES_MOST[r]};
            for (int v : taken) {
                TwoReels x = Due.told(String.format("%s %04d;", Due.RULES[r], v));
                for (int other = 0; other < 9; other++) {
                    Due.is("rule(" + other + ")", x.rule(other), other == r ? v : Due.RULES_FIRST[other]);
                }
            }
            int place = Due.RULES[r].length() + 1;
            for (int v : new int[] {Due.RULES_LEAST[r] - 1, Due.RULES_MOST[r] + 1, 9999, 0}) {
                if (v >= Due.RULES_LEAST[r] && v <= Due.RULES_MOST[r] || v < 0 || v > 9999) continue;
                Due.refuses(Due.RULES[r] + " " + v + ";", place, 3);
                Due.refuses(Due.RULES[r] + " " + v, place, 3);
            }
        }
    }

    private static void rulesForTheSecondTime() {
        Due.topic("FAULT 4: for the second time");
        for (int r = 0; r < 9; r++) {
            String line = Due.RULES[r] + " " + Due.RULES_MOST[r] + ";";
            Due.refuses(line + " " + Due.RULES[r], line.length() + 1, 4);
            Due.refuses(line + line, line.length(), 4);
            Due.refuses(line + "mark;" + Due.RULES[r] + ";", line.length() + 5, 4);
            Due.refuses(line + Due.RULES[r] + " 99999;", line.length(), 4);
        }
        StringBuilder all = new StringBuilder();
        for (int r = 0; r < 9; r++) all.append(Due.RULES[r]).append(Due.RULES_LEAST[r]).append(';');
        for (int r = 0; r < 9; r++) Due.refuses(all + Due.RULES[r], all.length(), 4);
        Due.refuses("gap 1;hub 7;thick 1;hub 7;", 20, 4);
        takes("block 1;block 1;mark;mark;", 4);
        TwoReels x = new TwoReels();
        Due.refuses(x, "hub 7;hub 7;", 6, 4);
        Due.is("in the next text it is the first time", Due.tell(x, "hub 7;"), 1);
    }

    private static void bytesOfABlock() {
        Due.topic("BYTES of a block line");
        StringBuilder text = new StringBuilder("block");
        for (int n = 1; n <= 12; n++) {
            text.append(n == 12 ? " 255" : " 0");
            TwoReels x = Due.told(text + ";");
            Due.is("BYTES", x.block(0, 2), n);
            Due.is("the last one", x.got(0, n - 1), n == 12 ? 255 : 0);
            Due.refuses(text + " 256;", text.length() + 1, 3);
            Due.refuses(text + " 9999;", text.length() + 1, 3);
        }
        Due.refuses("block 256;", 6, 3);
        Due.refuses(TWELVE_BYTES + " 13;", 33, 5);
        Due.refuses(TWELVE_BYTES + "   0 14 15", 35, 5);
        Due.refuses("mark;" + TWELVE_BYTES + ";" + TWELVE_BYTES + " 255;", 71, 5);
        takes((TWELVE_BYTES + ";").repeat(12), 12);
    }

    private static void twelveBlocks() {
        Due.topic("12 BLOCKS");
        for (int marks = 0; marks <= 12; marks++) {
            String twelve = "mark;".repeat(marks) + "block 7;".repeat(12 - marks);
            TwoReels x = Due.told(twelve);
            Due.is("count(0)", x.count(0), 12);
            Due.is("count(1)", x.count(1), marks);
            Due.refuses(twelve + "mark;", twelve.length(), 5);
            Due.refuses(twelve + "  block 7;", twelve.length() + 2, 5);
        }
        takes("mark;".repeat(12) + "hub 7;", 13);
        Due.refuses("mark;".repeat(12) + "hub 7; block", 67, 5);
    }

    private static void blocksUpToTheEnd() {
        Due.topic("FAULT 6: BLOCKS beyond length");
        String six = "length 20;gap 0;dense 1;" + TWELVE_BYTES + ";block 1 2 3 4 5 6";
        Due.is("its end is at length", Due.told(six + ";").now(5), 0);
        Due.refuses(six + " 7;", six.length() + 3, 6);
        Due.refuses(six + " 7;   ", six.length() + 6, 6);
        Due.refuses(six + ";mark;", six.length() + 6, 6);
        String five = "length 20;gap 0;dense 1;" + TWELVE_BYTES + ";block 1 2 3 4 5;mark;";
        Due.is("a MARK up to length", Due.told(five).now(5), 0);
        Due.refuses(five + "mark;", five.length() + 5, 6);
        Due.is("told behind them", Due.told("mark;mark;length 20;gap 9;").now(5), 0);
        Due.refuses("mark;mark;length 20;gap 10;", 27, 6);
        Due.is("it begins ahead of length", Due.told("length 20;gap 19;mark;").now(5), 0);
        Due.refuses("length 20;gap 20;mark;", 22, 6);
        Due.refuses("length 20;gap 99;mark;", 22, 6);
        takes("length 20;gap 99;", 2);
        Due.is("length as at first", Due.told("gap 99;" + "mark;".repeat(10)).now(5), 0);
        Due.refuses("gap 99;" + "mark;".repeat(11), 62, 6);
    }

    private static void theFirstFaultMet() {
        Due.topic("the first FAULT met");
        Due.refuses("gap 100#;", 4, 3);
        Due.refuses("gap 7;gap#;", 6, 4);
        Due.refuses("gap#;", 3, 1);
        Due.refuses("gap 7#", 5, 1);
        Due.refuses("gaps#", 0, 2);
        Due.refuses("block 256 12345;", 6, 3);
        Due.refuses("block 1 12345;", 8, 1);
        Due.refuses("mark#;", 4, 1);
        Due.refuses("mark;".repeat(12) + "block#", 60, 5);
        Due.refuses("length 20;gap 20;mark;#", 22, 1);
        Due.refuses("length 20;gap 20;mark;gap 20;", 22, 4);
        Due.refuses("length 20;gap 20;mark;mark", 26, 2);
        Due.refuses("gap 100;#", 4, 3);
        Due.refuses("hub 4;thick 0;", 4, 3);
        Due.refuses("# gap 100;", 0, 1);
        Due.refuses("## #", 0, 1);
    }

    private static void howManyLines() {
        Due.topic("text: how many lines");
        takes("", 0);
        takes(" ", 0);
        takes("mark;", 1);
        StringBuilder all = new StringBuilder();
        for (int r = 0; r < 9; r++) {
            all.append(Due.RULES[r]).append(Due.RULES_FIRST[r]).append(';');
            takes(all.toString(), r + 1);
        }
        for (int b = 1; b <= 12; b++) {
            all.append(b % 2 == 0 ? "mark;" : "block 0;");
            takes(all.toString(), 9 + b);
        }
    }

    private static void whatItDoesNotTellIsAsAtFirst() {
        Due.topic("text: what it does not tell");
        for (String text : new String[] {"", "   ", "hub 20;", "gap 6;play 10;"}) {
            TwoReels x = States.used();
            x.cut(100, 150);
            x.sheet(0, 0, 0);
            x.sheet(3, 0, 0);
            x.read(3, 0, 0, 0);
            TwoReels fresh = new TwoReels();
            fresh.sheet(0, 0, 0);
            Due.holds("\"" + text + "\" is taken", Due.tell(x, text) >= 0);
            Whole.same("all behind \"" + text + "\" but SHEETS", Whole.asked(x), Whole.asked(fresh));
            for (int i = 0; i < 2; i++) Due.is("IMAGE " + i + " is gone", x.back(i), STATE);
        }
    }

    private static void whatThereWasIsGone() {
        Due.topic("text: in place of what there was");
        TwoReels x = States.used();
        Due.is("text()", Due.tell(x, "block 9;"), 1);
        Due.is("BLOCKS", x.count(0), 1);
        Due.is("no BLOCK 1", x.block(1, 0), BAD);
        Due.is("BLOCK 3 was here", x.blockAt(21), NONE);
        int[] now = {0, 0, 0, NONE, 0, 993};
        for (int w = 0; w < 6; w++) Due.is("now(" + w + ")", x.now(w), now[w]);
        Due.is("nothing SEEN", x.fits(0), 855);
        Due.is("IMAGES", x.count(4), 0);
        Due.is("the FAULT of read() stays", x.torn(), 1);
        Due.is("SHEET 0 stays", x.read(0, 0, 0, 2), -21);
        Due.is("SHEET 1 stays", x.read(1, 1, 1, 1), 1);
        Due.is("SHEET 2 stays", x.read(2, 2, 0, 1), 1);
        Due.is("SHEET 3 stays nothing", x.lay(3, 0, 0), -11);
        Due.is("write(1)", x.write(1), x.ticks(0, 13, 2) + 20);
        Due.is("of SHEET 2", x.got(1, 1), 200);
    }

    private static void faultOfTheLatest() {
        Due.topic("fault: of the latest text()");
        TwoReels x = new TwoReels();
        Due.is("no text()", x.fault(), 0);
        String[] texts = {"#", "mark", "gap 100;", "gap 1;gap 1;", "mark;".repeat(13), "gap 99;length 20;mark;"};
        for (int f = 1; f <= 6; f++) {
            Due.tell(x, texts[f - 1]);
            Due.is("fault()", x.fault(), f);
            Due.feedText(x, "mark;");
            x.type(256);
            Due.is("LETTERS and calls leave it", x.fault(), f);
            Due.is("text()", x.text(), 1);
            Due.is("none", x.fault(), 0);
        }
    }
}
