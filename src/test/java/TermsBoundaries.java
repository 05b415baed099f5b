/** For each sentence of the document's Terms that names a boundary case a test of its own. */
public final class TermsBoundaries extends Sentences {
    /** The cells next to each cell, by hand. */
    private static final int[][] NEXT = {
        {1, 4}, {0, 2, 5}, {1, 3, 6}, {2, 7},
        {0, 5, 8}, {1, 4, 6, 9}, {2, 5, 7, 10}, {3, 6, 11},
        {4, 9, 12}, {5, 8, 10, 13}, {6, 9, 11, 14}, {7, 10, 15},
        {8, 13}, {9, 12, 14}, {10, 13, 15}, {11, 14}};

    public static void main(String[] args) {
        cellsAndGoers();
        clauses();
        numbersAndBlanks();
        expressions();
        tests();
        nesting();
        faults();
        roomsThatHold();
        yieldsAndBald();
        ways();
        treads();
        treadsOfOwn();
        daysThatGo();
        beyondTheMost();
        daysAsked();
        who();
        stand();
        standOfSeveral();
        lay();
        seen();
        oddsAndMeans();
        plansAndBooks();
        acts();
        image();
        beyondTheImage();
        judged();
        end();
    }

    // ---- what several tests share

    /** A run on which 9960 days have gone; pass(39) then brings it to 9999. */
    private static Run old(String made) {
        return new Run(made).times(166, "pass(60)");
    }

    /** The cells of which E holds for a goer of this number, kind and v. */
    private static int cellsOf(String e, int goer, int kind, int v) {
        Run x = new Run();
        x.times(goer, "goer(0, 0, 0, 0)").make("goer(" + kind + ", " + v + ", 0, 0)").dueRoom("soft 1 " + e, 0);
        return x.cellsWith("of(" + goer + ", ", 50, 2);
    }

    private static void dueHolds(String e, int want) {
        due("the cells of " + e, cellsOf(e, 0, 0, 0), want);
    }

    private static void dueHoldsFor(String e, int goer, int kind, int v, boolean want) {
        due(e + " for goer " + goer + ", kind " + kind + ", v " + v, cellsOf(e, goer, kind, v), want ? 65535 : 0);
    }

    /** Such a text is no room; its fault is at this place. */
    private static void dueFault(String text, int place) {
        new Run().dueRoom(text, -10 - place);
    }

    private static void dueRead(String text) {
        new Run().dueRoom(text, 0);
    }

    /** Each sign but these, in the place of the ? of a text, is its fault. */
    private static void dueFaultOfAllBut(String signs, String text) {
        int place = text.indexOf('?');
        for (char sign = 0; sign < 128; sign++) {
            String put = text.replace('?', sign);
            if (signs.indexOf(sign) < 0) dueFault(put, place);
            else due("sign " + (int) sign + " is no fault at " + place, new Run().text(put).ask("room()") == -10 - place ? 1 : 0, 0);
        }
    }

    // ---- part 1

    private static void cellsAndGoers() {
        sentence("CELL c is in ROW c by 4 (cut)", () -> {
            for (int r = 0; r < 4; r++) dueHolds("r=" + r, 15 << 4 * r);
            dueHolds("r=4", 0);
        });
        sentence("COLUMN c modulo 4", () -> {
            for (int x = 0; x < 4; x++) dueHolds("x=" + x, 0x1111 << x);
            dueHolds("x=4", 0);
        });
        sentence("Two are NEXT, if they are in one ROW, in COLUMNS 1 apart, or in one COLUMN, in ROWS 1 apart", () -> {
            for (int c = 0; c < 16; c++) {
                int next = new Run("goer(5, 0, " + c + ", " + c + ")").cellsWith("of(0, ", 30, 1);
                due("a dancer's treads by " + c, next, cells(NEXT[c]) | 1 << c);
            }
        });
        sentence("NEXT: not from a ROW's end to the next ROW's begin, nor from the last ROW or COLUMN to the first", () -> {
            new Run("goer(0, 0, 3, 4) goer(0, 0, 4, 3)").dueWay(0, 3, 2, 1, 0, 4).dueWay(1, 4, 0, 1, 2, 3);
            new Run("goer(0, 0, 11, 12) goer(0, 0, 12, 11)").dueWay(0, 11, 10, 9, 8, 12).dueWay(1, 12, 8, 9, 10, 11);
            new Run("goer(0, 0, 0, 3) goer(0, 0, 15, 12)").dueWay(0, 0, 1, 2, 3).dueWay(1, 15, 14, 13, 12);
            new Run("goer(0, 0, 0, 12) goer(0, 0, 15, 3)").dueWay(0, 0, 4, 8, 12).dueWay(1, 15, 11, 7, 3);
        });
        sentence("NEXT: not across a corner", () ->
            new Run("goer(0, 0, 0, 5) goer(0, 0, 15, 10)").dueWay(0, 0, 1, 5).dueWay(1, 15, 11, 10));
        sentence("WEAR of each (0 .. 9999; 0 at first)", () -> new Run().dueWear().due("told(4)", 0));
        sentence("FURNITURE: CELLS, as bits (none at first)", () -> {
            Run x = new Run().due("told(2)", 0);
            for (int c = 0; c < 16; c++) x.due("stand(" + c + ", true)", 0);
            x.due("told(2)", 65535);
            for (int c = 0; c < 16; c++) x.due("stand(" + c + ", false)", 1);
            x.due("told(2)", 0);
        });
        sentence("GOERS 0 .. 5, as they come", () -> {
            Run x = new Run();
            for (int g = 0; g < 6; g++) x.due("goer(0, " + g + ", 0, 0)", g);
            for (int g = 0; g < 6; g++) x.due("of(" + g + ", 1)", g);
        });
        sentence("FROM, TO (CELLS, maybe one)", () ->
            new Run().due("goer(0, 0, 9, 9)", 0).due("of(0, 2) of(0, 3)", 9).dueWay(0, 9));
        sentence("AWAY, or not (not at first)", () -> {
            Run x = new Run().times(6, "goer(0, 0, 0, 0)");
            x.dueForEach("of(#, 4)", upTo(0, 5), 0);
        });
        sentence("DAY: 0 at first", () -> new Run().due("told(0)", 0));
    }

    private static void clauses() {
        sentence("THE TEXT (bytes, 100 at most): all 100 are read", () -> {
            Run x = new Run("goer(0, 0, 0, 0)").text("soft 10 c=00" + repeat("|c=1", 21) + "|c=").due("feed(50)", 100);
            x.due("room()", 0);
            due("soft", x.cellsWith("of(0, ", 50, 11), cells(0, 1, 2));
        });
        sentence("CLAUSES, 1 to 10: none", () -> dueFault("", 0));
        sentence("CLAUSES, 1 to 10: 1", () -> dueRead("bald 1"));
        sentence("CLAUSES, 1 to 10: 10", () -> {
            new Run().dueRoom(repeat("bald 8;", 9) + "bald 7", 0).due("told(1)", 7);
            new Run("goer(0, 0, 0, 0)").dueRoom(repeat("bald 8;", 9) + "soft 6 c=0", 0).due("of(0, 50)", 7);
        });
        sentence("CLAUSES, 1 to 10: the ; of an 11th", () -> {
            dueFault(repeat("bald 8;", 9) + "bald 7;", 69);
            dueFault(repeat("bald 8;", 9) + "bald 7;bald 6", 69);
        });
        sentence("with ; between: nor ahead, nor behind, nor two, nor another sign", () -> {
            dueFault(";bald 1", 0);
            dueFault("bald 1;", 7);
            dueFault("bald 1;;bald 2", 7);
            dueFault("bald 1 bald 2", 6);
            dueFault("bald 1bald 2", 6);
            dueFault("bald 1,bald 2", 6);
            dueFault("soft 1 c=1,bald 2", 10);
        });
        sentence("soft n E; hard n E; bald n: other words", () -> {
            dueFaultOfAllBut("shb", "?oft 1 c=1");
            dueFaultOfAllBut("o", "s?ft 1 c=1");
            dueFaultOfAllBut("f", "so?t 1 c=1");
            dueFaultOfAllBut("t", "sof? 1 c=1");
            dueFaultOfAllBut("a", "h?rd 1 c=1");
            dueFaultOfAllBut("r", "ha?d 1 c=1");
            dueFaultOfAllBut("d", "har? 1 c=1");
            dueFaultOfAllBut("a", "b?ld 1");
            dueFaultOfAllBut("l", "ba?d 1");
            dueFaultOfAllBut("d", "bal? 1");
        });
        sentence("soft n E; hard n E; bald n: a part too few, a part too many", () -> {
            dueFault("soft 1", 6);
            dueFault("hard 12", 7);
            dueFault("soft", 4);
            dueFault("hard", 4);
            dueFault("bald", 4);
            dueFault("bald 1 c=1", 6);
            dueFault("soft c=1", 5);
            dueFault("soft 1 2 c=1", 7);
        });
    }

    private static void numbersAndBlanks() {
        sentence("one blank ahead of each part behind the word: none", () -> {
            dueFaultOfAllBut(" ", "soft?1 c=1");
            dueFaultOfAllBut(" ", "hard?1 c=1");
            dueFaultOfAllBut(" ", "bald?1");
            dueFaultOfAllBut(" 0123456789", "soft 1?c=1");
            dueFaultOfAllBut(" ", "hard 12?c=1");
        });
        sentence("one blank ahead of each part behind the word: two", () -> {
            dueFault("soft  1 c=1", 5);
            dueFault("soft 1  c=1", 7);
            dueFault("hard  1 c=1", 5);
            dueFault("hard 12  c=1", 8);
            dueFault("bald  1", 5);
        });
        sentence("one blank ahead of each part behind the word: nowhere else", () -> {
            dueFault(" soft 1 c=1", 0);
            dueFault("soft 1 c=1 ", 10);
            dueFault("bald 1 ", 6);
            dueFault("bald 1; bald 2", 7);
            dueFault("bald 1 ;bald 2", 6);
            dueFault("soft 1 c =1", 8);
            dueFault("soft 1 c= 1", 9);
            dueFault("soft 1 ( c=1)", 8);
            dueFault("soft 1 (c=1 )", 11);
            dueFault("soft 1 c=1 |c=2", 10);
            dueFault("soft 1 c=1& c=2", 11);
            dueFault("soft 1 ! c=1", 8);
        });
        sentence("n 1 or 2 digits: none", () -> {
            dueFault("bald ", 5);
            dueFaultOfAllBut("0123456789", "bald ?");
            dueFaultOfAllBut("0123456789", "soft ? c=1");
            dueFaultOfAllBut("0123456789", "hard ? c=1");
        });
        sentence("n 1 or 2 digits: 1", () -> {
            for (int n = 0; n < 10; n++) {
                new Run("goer(0, 0, 0, 0)").dueRoom("bald " + n + ";soft " + n + " c=0", 0).due("told(1)", n).due("of(0, 50)", 1 + n);
            }
        });
        sentence("n 1 or 2 digits: 2", () -> {
            int[] numbers = {10, 19, 90, 99};
            for (int n : numbers) {
                new Run("goer(0, 0, 0, 0)").dueRoom("bald " + n + ";soft " + n + " c=0", 0).due("told(1)", n).due("of(0, 50)", 1 + n);
            }
            new Run("goer(0, 0, 0, 0)").dueRoom("bald 00;soft 09 c=0;hard 00 c=0", 0).due("told(1)", 0).due("of(0, 50)", 10);
        });
        sentence("n 1 or 2 digits: 3", () -> {
            dueFault("bald 100", 7);
            dueFault("bald 001", 7);
            dueFault("soft 100 c=1", 7);
            dueFault("hard 001 c=1", 7);
        });
    }

    private static void expressions() {
        sentence("E: T or T|E: a T is missing", () -> {
            dueFault("soft 1 |c=1", 7);
            dueFault("soft 1 c=1|", 11);
            dueFault("soft 1 c=1||c=2", 11);
            dueFault("soft 1 (|c=1)", 8);
            dueFault("soft 1 (c=1|)", 12);
            dueFault("soft 1 c=1|;bald 1", 11);
        });
        sentence("E: T or T|E: one, two, as many as there is place for", () -> {
            dueHolds("c=15", cells(15));
            dueHolds("c=0|c=15", cells(0, 15));
            dueHolds("c=0|c=1|c=2|c=3|c=4|c=5|c=6|c=7|c=8|c=9|c=10|c=11|c=12|c=13|c=14|c=15", 65535);
        });
        sentence("T: F or F&T: an F is missing", () -> {
            dueFault("soft 1 &c=1", 7);
            dueFault("soft 1 c=1&", 11);
            dueFault("soft 1 c=1&&c=2", 11);
            dueFault("soft 1 c=1&|c=2", 11);
            dueFault("soft 1 c=1|&c=2", 11);
        });
        sentence("T: F or F&T: ahead of |", () -> {
            dueHolds("c=0&c=15", 0);
            dueHolds("c<9&c>6", cells(7, 8));
            dueHolds("c=0|c=1&c=2", cells(0));
            dueHolds("c=1&c=2|c=0", cells(0));
            dueHolds("c=3|c=4&x=0|c=9", cells(3, 4, 9));
            dueHolds("c<3&c>0|c=15&r=3", cells(1, 2, 15));
            dueHolds("c<9&c<8&c<7&c>4&!c=5", cells(6));
        });
        sentence("F: !F: of the one F alone", () -> {
            dueHolds("!c=0", 65534);
            dueHolds("!!c=0", 1);
            dueHolds("!c=0&c<2", cells(1));
            dueHolds("c<2&!c=0", cells(1));
            dueHolds("!c=0|c=0", 65535);
            dueHolds("!c<15|c=0", cells(0, 15));
            dueHolds("!(c<15|c=0)", cells(15));
            dueFault("soft 1 !", 8);
            dueFault("soft 1 !|c=1", 8);
            dueFault("soft 1 c=1!c=2", 10);
            dueFault("soft 1 c!=1", 8);
        });
        sentence("F: (E): empty, not closed, closed too often", () -> {
            dueHolds("(c=0)", 1);
            dueHolds("(c=0|c=1)&c=1", cells(1));
            dueFault("soft 1 ()", 8);
            dueFault("soft 1 (", 8);
            dueFault("soft 1 (c=1", 11);
            dueFault("soft 1 (c=1;bald 1", 11);
            dueFault("soft 1 ((c=1)", 13);
            dueFault("soft 1 )c=1", 7);
            dueFault("soft 1 c=1)", 10);
            dueFault("soft 1 (c=1))", 12);
            dueFault("soft 1 (c=1)(c=2)", 12);
            dueFault("soft 1 (c=1)c=2", 12);
        });
    }

    private static void tests() {
        sentence("a TEST: a letter", () -> dueFaultOfAllBut("crxgkv(!", "soft 1 ?=1"));
        sentence("< or = or >", () -> dueFaultOfAllBut("<=>", "soft 1 c?1"));
        sentence("< or = or >: one alone", () -> {
            dueFault("soft 1 c<=5", 9);
            dueFault("soft 1 c>=5", 9);
            dueFault("soft 1 c==5", 9);
            dueFault("soft 1 c<>5", 9);
        });
        sentence("a number (1 or 2 digits): none", () -> {
            dueFault("soft 1 c=", 9);
            dueFaultOfAllBut("0123456789", "soft 1 c=?");
        });
        sentence("a number (1 or 2 digits): 1 or 2", () -> {
            for (int c = 0; c < 16; c++) dueHolds("c=" + c, 1 << c);
            for (int c = 0; c < 10; c++) dueHolds("c=0" + c, 1 << c);
            dueHolds("c=99", 0);
            dueHolds("c<99", 65535);
        });
        sentence("a number (1 or 2 digits): 3", () -> {
            dueFault("soft 1 c=001", 11);
            dueFault("soft 1 c=123&c=1", 11);
            dueFaultOfAllBut("0123456789|&;", "soft 1 c=1?");
            dueFaultOfAllBut("|&;", "soft 1 c=12?");
        });
        sentence("< is less alone, > more alone", () -> {
            dueHolds("c<5", 0x001f);
            dueHolds("c=5", 0x0020);
            dueHolds("c>5", 0xffc0);
            dueHolds("r<2", 0x00ff);
            dueHolds("r>2", 0xf000);
            dueHolds("x<2", 0x3333);
            dueHolds("x>2", 0x8888);
        });
        sentence("of a CELL c the number, r its ROW, x its COLUMN: the least and the most", () -> {
            dueHolds("c<0|r<0|x<0", 0);
            dueHolds("c<1", cells(0));
            dueHolds("c>14", cells(15));
            dueHolds("c>15|r>3|x>3", 0);
            dueHolds("c<16&r<4&x<4", 65535);
        });
        sentence("g the number of the other", () -> {
            for (int g = 0; g < 6; g++) {
                for (int n = 0; n < 7; n++) dueHoldsFor("g=" + n, g, 6 - g, 9, g == n);
            }
            dueHoldsFor("g<5", 5, 0, 0, false);
            dueHoldsFor("g<5", 4, 0, 0, true);
            dueHoldsFor("g>0", 0, 0, 0, false);
            dueHoldsFor("g>0", 1, 0, 0, true);
        });
        sentence("k its KIND", () -> {
            for (int k = 0; k < 7; k++) {
                for (int n = 0; n < 8; n++) dueHoldsFor("k=" + n, 1, k, 9, k == n);
            }
            dueHoldsFor("k<6", 0, 6, 0, false);
            dueHoldsFor("k>5", 0, 6, 0, true);
            dueHoldsFor("k>0", 0, 0, 0, false);
        });
        sentence("v its v", () -> {
            for (int v = 0; v < 10; v++) {
                for (int n = 0; n < 11; n++) dueHoldsFor("v=" + n, 1, 2, v, v == n);
            }
            dueHoldsFor("v<9", 0, 0, 9, false);
            dueHoldsFor("v>8", 0, 0, 9, true);
            dueHoldsFor("v>0", 0, 0, 0, false);
        });
    }

    private static void nesting() {
        sentence("A ( or ! within 4 others is none: 4 (", () -> dueHolds("((((c=1))))", cells(1)));
        sentence("A ( or ! within 4 others is none: a 5th (", () -> {
            dueFault("soft 1 (((((c=1)))))", 11);
            dueFault("soft 1 !!!!(c=1)", 11);
            dueFault("soft 1 !(!((c=1)))", 11);
            dueFault("soft 1 c=1|((((c=1&(c=2)))))", 19);
        });
        sentence("A ( or ! within 4 others is none: 4 !", () -> dueHolds("!!!!c=1", cells(1)));
        sentence("A ( or ! within 4 others is none: a 5th !", () -> {
            dueFault("soft 1 !!!!!c=1", 11);
            dueFault("soft 1 ((((!c=1))))", 11);
            dueFault("soft 1 !(!(!c=1))", 11);
            dueFault("soft 1 (!(!c=1&!!c=2))", 16);
        });
        sentence("A ( or ! within 4 others is none: 4 of both", () -> {
            dueHolds("!(!(c=1))", cells(1));
            dueHolds("(!(!c=1))", cells(1));
            dueHolds("!((!c=1))", cells(1));
            dueHolds("(((!c=1)))", 65533);
        });
        sentence("A ( or ! within 4 others is none: those beside it are no others that it is within", () -> {
            dueHolds("((((c=1))))|((((c=2))))|!!!!c=3", cells(1, 2, 3));
            dueHolds("!!!!c=1|!!!!c=2", cells(1, 2));
            dueHolds("(!!!c=1&(((c=2))))", cells(2));
            dueHolds("(((c=1)|(c=2))|((c=3)))", cells(1, 2, 3));
            dueFault("soft 1 (!!!c=1|((((c=2)))))", 18);
        });
    }

    private static void faults() {
        sentence("The FAULT: the place of the first byte with which none begins so: of two the first", () -> {
            dueFault("x", 0);
            dueFault("xbald 1", 0);
            dueFault("balx 1;;", 3);
            dueFault("bald 1x;y", 6);
            dueFault("soft 1 c=1)&)", 10);
        });
        sentence("The FAULT: the last byte of 100", () -> dueFault("soft 1 c=0" + repeat("|c=1", 22) + "||", 99));
        sentence("The FAULT: (the end of THE TEXT, if it ends too early): after each byte of a text", () -> {
            String whole = "soft 12 !(c<3|x>2)&v=9;hard 0 k=6;bald 45";
            int[] rooms = {18, 22, 33, 40, 41};
            for (int length = 0; length <= whole.length(); length++) {
                int want = -10 - length;
                for (int some : rooms) if (some == length) want = 0;
                new Run().dueRoom(whole.substring(0, length), want);
            }
        });
        sentence("The FAULT: (the end of THE TEXT, if it ends too early): behind 100 bytes", () ->
            dueFault("soft 1 c=0" + repeat("|c=1", 22) + "|c", 100));
    }

    private static void roomsThatHold() {
        sentence("The newest ROOM holds", () -> {
            Run x = new Run("goer(0, 0, 0, 0)").dueRoom("bald 7;soft 2 c=0", 0).due("told(1)", 7).due("of(0, 50)", 3);
            x.dueRoom("soft 1 c=1", 1).due("told(1)", 30).due("of(0, 50)", 1).due("of(0, 51)", 2);
        });
        sentence("(6 at most)", () -> {
            Run x = new Run();
            for (int k = 0; k < 6; k++) x.dueRoom("bald " + k, k).due("told(1)", k).due("count(1)", k + 1);
            x.dueRoom("bald 6", FULL).due("told(1)", 5).due("count(1)", 6);
        });
        sentence("without one there are no CLAUSES", () -> {
            Run x = new Run("goer(6, 9, 0, 0)").text("soft 1 c<16;bald 3").due("told(1)", 30);
            due("yields", x.cellsWith("of(0, ", 50, 1), 65535);
            new Run("goer(6, 9, 0, 0)").dueRoom("soft 1 c<16;bald 3;", -29).due("told(1)", 30).due("of(0, 50)", 1);
        });
    }

    private static void yieldsAndBald() {
        sentence("YIELDS: (0 at least)", () -> {
            Run x = new Run("goer(0, 0, 0, 0)").room("hard 1 c=0;hard 2 c=1;hard 99 c=2");
            x.due("of(0, 50) of(0, 51) of(0, 52)", 0).due("of(0, 53)", 1);
        });
        sentence("YIELDS: 1, and the n of all soft, less those of all hard, together: in whatever order", () -> {
            Run x = new Run("goer(0, 0, 0, 0)").room("hard 5 c<3;soft 4 c=0;soft 5 c=1;soft 6 c=2");
            x.due("of(0, 50)", 0).due("of(0, 51)", 1).due("of(0, 52)", 2);
            x.room("soft 4 c=0;soft 5 c=1;soft 6 c=2;hard 5 c<3").due("of(0, 50)", 0).due("of(0, 51)", 1).due("of(0, 52)", 2);
            x.room("hard 3 c=0;soft 4 c=0;hard 3 c=0;soft 3 c=0").due("of(0, 50)", 2);
        });
        sentence("YIELDS: the n of all soft: none, 0, the most", () -> {
            new Run("goer(0, 0, 0, 0)").room("bald 1").due("of(0, 50)", 1);
            new Run("goer(0, 0, 0, 0)").room("soft 0 c=0;hard 0 c=0").due("of(0, 50)", 1);
            new Run("goer(0, 0, 0, 0)").room(repeat("soft 99 c=0;", 7) + "soft 99 c=0").due("of(0, 50)", 793).due("pass(60)", 60)
                .due("told(10)", 9999);
        });
        sentence("BALD: the last n of bald", () -> {
            new Run().room("bald 5;soft 1 c=1;bald 8;hard 1 c=1").due("told(1)", 8);
            new Run().room("bald 8;bald 5").due("told(1)", 5);
            new Run().room("bald 99;bald 0").due("told(1)", 0);
        });
        sentence("BALD: (30 without)", () -> {
            new Run().due("told(1)", 30);
            new Run().room("soft 1 c=1").due("told(1)", 30);
        });
        sentence("a CELL is BALD, if its WEAR is that or more", () -> {
            new Run("set(0, 29) set(1, 30) set(2, 31) set(3, 9999)").due("told(3)", cells(1, 2, 3));
            new Run("set(0, 98) set(1, 99) set(2, 100)").room("bald 99").due("told(3)", cells(1, 2));
            new Run("set(0, 1)").room("bald 1").due("told(3)", cells(0));
        });
        sentence("a CELL is BALD by 0, whatever its WEAR", () -> new Run().room("bald 0").due("told(3)", 65535));
    }

    private static void ways() {
        sentence("WAY: FROM and TO one", () -> new Run("goer(0, 0, 0, 0) goer(6, 0, 15, 15)").dueWay(0, 0).dueWay(1, 15));
        sentence("WAY: none of them with FURNITURE: on FROM", () -> new Run("goer(0, 0, 0, 2) stand(0, true)").dueWay(0));
        sentence("WAY: none of them with FURNITURE: on TO", () -> new Run("goer(0, 0, 0, 2) stand(2, true)").dueWay(0));
        sentence("WAY: none of them with FURNITURE: on FROM and TO, which are one", () ->
            new Run("goer(0, 0, 7, 7) stand(7, true)").dueWay(0).make("stand(7, false)").dueWay(0, 7));
        sentence("WAY: none of them with FURNITURE: between", () ->
            new Run("goer(0, 0, 0, 2) stand(1, true)").dueWay(0, 0, 4, 5, 6, 2).make("stand(1, false)").dueWay(0, 0, 1, 2));
        sentence("WAY: with as few CELLS as can be", () ->
            new Run("goer(0, 0, 4, 6) stand(5, true)").dueWay(0, 4, 0, 1, 2, 6).make("stand(1, true)").dueWay(0, 4, 8, 9, 10, 6));
        sentence("WAY: (of several the first as a row)", () -> {
            new Run("goer(0, 0, 0, 15) goer(0, 0, 15, 0)").dueWay(0, 0, 1, 2, 3, 7, 11, 15).dueWay(1, 15, 11, 7, 3, 2, 1, 0);
            new Run("goer(0, 0, 3, 12) goer(0, 0, 12, 3)").dueWay(0, 3, 2, 1, 0, 4, 8, 12).dueWay(1, 12, 8, 4, 0, 1, 2, 3);
            new Run("goer(0, 0, 5, 10) goer(0, 0, 9, 6)").dueWay(0, 5, 6, 10).dueWay(1, 9, 5, 6)
                .make("stand(6, true)").dueWay(0, 5, 9, 10);
            new Run("goer(0, 0, 10, 0) stand(6, true)").dueWay(0, 10, 9, 5, 1, 0).make("stand(1, true)").dueWay(0, 10, 9, 5, 4, 0);
        });
        sentence("WAY: none, if there is no such row", () -> {
            new Run("goer(0, 0, 0, 15) stand(1, true) stand(4, true)").dueWay(0);
            new Run("goer(0, 0, 0, 15) stand(11, true) stand(14, true)").dueWay(0);
            new Run("goer(0, 0, 0, 15) stand(3, true) stand(6, true) stand(9, true) stand(12, true)").dueWay(0);
        });
        sentence("WAY: the longest there can be has 11 CELLS", () ->
            new Run("goer(0, 0, 0, 8) stand(4, true) stand(5, true) stand(6, true) stand(9, true) stand(10, true)")
                .dueWay(0, 0, 1, 2, 3, 7, 11, 15, 14, 13, 12, 8).due("of(0, 25)", NOT_ANY));
        sentence("BLIND, DANCER: as if there were no FURNITURE; the others have no WAY if it is everywhere", () -> {
            Run x = new Run();
            for (int c = 0; c < 16; c++) x.make("stand(" + c + ", true)");
            x.make("goer(2, 0, 0, 2) goer(5, 0, 0, 2) goer(0, 0, 0, 2) goer(1, 0, 0, 2) goer(3, 0, 0, 2) goer(4, 0, 0, 2)");
            x.dueWay(0, 0, 1, 2).dueWay(1, 0, 1, 2).dueWay(2).dueWay(3).dueWay(4).dueWay(5);
            new Run("goer(6, 0, 0, 2) stand(0, true)").dueWay(0);
        });
    }

    private static void treads() {
        sentence("TREADS: GOER: 1 for each CELL of its WAY", () -> new Run("goer(0, 9, 0, 2)").dueTreads(0, 0, 1, 1, 1, 2, 1));
        sentence("TREADS: BLIND: 1 for each CELL of its WAY", () -> new Run("goer(2, 9, 0, 2)").dueTreads(0, 0, 1, 1, 1, 2, 1));
        sentence("TREADS: PACER: 2", () -> new Run("goer(1, 9, 0, 2)").dueTreads(0, 0, 2, 1, 2, 2, 2));
        sentence("TREADS: THIEF: 1, if DAY is odd, else 0: at first and then", () -> {
            Run x = new Run("goer(3, 9, 0, 2)").dueTreads(0).make("pass(1)").dueTreads(0, 0, 1, 1, 1, 2, 1);
            x.make("pass(1)").dueTreads(0).make("pass(1)").dueTreads(0, 0, 1, 1, 1, 2, 1);
        });
        sentence("TREADS: THIEF: 1, if DAY is odd, else 0: on the last DAYS", () ->
            old("goer(3, 9, 0, 2)").make("pass(38)").dueTreads(0).make("pass(1)").dueTreads(0, 0, 1, 1, 1, 2, 1));
        sentence("TREADS: TURNER: as PACER, and v more on TO: v 0, v 9", () ->
            new Run("goer(4, 0, 0, 2) goer(4, 9, 0, 2)").dueTreads(0, 0, 2, 1, 2, 2, 2).dueTreads(1, 0, 2, 1, 2, 2, 11));
        sentence("TREADS: TURNER: as PACER, and v more on TO: FROM is TO", () -> new Run("goer(4, 9, 7, 7)").dueTreads(0, 7, 11));
        sentence("TREADS: DANCER: as BLIND, and 1 more on each CELL NEXT to TO: in a corner, at an edge, within", () -> {
            new Run("goer(5, 9, 2, 0)").dueTreads(0, 2, 1, 1, 2, 0, 1, 4, 1);
            new Run("goer(5, 9, 0, 7)").dueTreads(0, 0, 1, 1, 1, 2, 1, 3, 2, 7, 1, 6, 1, 11, 1);
            new Run("goer(5, 9, 1, 9)").dueTreads(0, 1, 1, 5, 2, 9, 1, 8, 1, 10, 1, 13, 1);
        });
        sentence("TREADS: DANCER: as BLIND, and 1 more on each CELL NEXT to TO: FROM is TO, FURNITURE there", () ->
            new Run("goer(5, 9, 15, 15) stand(15, true) stand(11, true) stand(14, true)").dueTreads(0, 15, 1, 11, 1, 14, 1));
    }

    private static void treadsOfOwn() {
        sentence("TREADS: TOLD: as THIEF, and its ROW (0 at first)", () -> {
            Run x = new Run("goer(6, 9, 10, 11)");
            for (int day = 0; day < 5; day++) x.dueTreads(0, 10, day % 2, 11, day % 2).make("pass(1)");
        });
        sentence("TREADS: TOLD: its ROW (four numbers 0 .. 9) at DAY modulo 4 more on FROM", () -> {
            Run x = new Run("goer(6, 9, 10, 11) row(0, 0, 9) row(0, 1, 0) row(0, 2, 4) row(0, 3, 7)");
            int[] from = {9, 1, 4, 8, 9, 1, 4, 8, 9};
            for (int day = 0; day < 9; day++) x.dueTreads(0, 10, from[day], 11, day % 2).make("pass(1)");
        });
        sentence("TREADS: TOLD: at DAY modulo 4: on the last DAYS", () ->
            old("goer(6, 0, 3, 3) row(0, 3, 5) row(0, 2, 1)").make("pass(38)").dueTreads(0, 3, 1).make("pass(1)").dueTreads(0, 3, 6));
        sentence("TREADS: TOLD: more on FROM, which is TO", () -> new Run("goer(6, 0, 3, 3) row(0, 0, 9)").dueTreads(0, 3, 9));
        sentence("No TREADS, if it is AWAY", () -> {
            for (int kind = 0; kind < 7; kind++) {
                Run x = new Run("goer(" + kind + ", 9, 0, 2) pass(1) away(0, true)");
                if (kind == 6) x.make("row(0, 1, 9)");
                x.dueTreads(0).dueWay(0, 0, 1, 2).due("told(5)", 0);
            }
        });
        sentence("No TREADS, if it has no WAY", () -> {
            for (int kind : new int[] {0, 1, 3, 4, 6}) {
                for (String barred : new String[] {"stand(0, true)", "stand(2, true)", "stand(1, true) stand(4, true)"}) {
                    Run x = new Run("goer(" + kind + ", 9, 0, 2) pass(1)").make(barred);
                    if (kind == 6) x.make("row(0, 1, 9)");
                    x.dueTreads(0).due("told(5)", 0);
                }
            }
        });
    }

    private static void daysThatGo() {
        sentence("A DAY goes: WEAR is TREADS times what the CELL YIELDS more: for each GOER its own", () ->
            new Run("goer(0, 0, 0, 1) goer(1, 0, 1, 1)").room("soft 2 g=1").due("pass(1)", 1).dueWear(0, 1, 1, 7));
        sentence("A DAY goes: WEAR is TREADS times what the CELL YIELDS more: it YIELDS 0", () ->
            new Run("goer(1, 0, 0, 2)").room("hard 1 c=1").due("pass(1)", 1).dueWear(0, 2, 2, 2));
        sentence("A DAY goes: nobody is there", () -> new Run("set(3, 4)").due("pass(1)", 1).dueWear(3, 4));
        sentence("A DAY goes: (9999 at most)", () -> {
            Run x = new Run("goer(1, 0, 0, 3) goer(0, 0, 1, 1) set(0, 9996) set(1, 9997) set(2, 9998) set(3, 9999)");
            x.make("pass(1)").dueWear(0, 9998, 1, 9999, 2, 9999, 3, 9999).make("pass(1)").dueWear(0, 9999, 1, 9999, 2, 9999, 3, 9999);
            x.make("stand(0, true) stand(1, true) pass(1)").dueWear(0, 9999, 1, 9999, 2, 9999, 3, 9999);
        });
        sentence("A DAY goes: (9999 at most): many DAYS at once", () ->
            new Run("goer(1, 0, 0, 2) set(0, 9879) set(1, 9880) set(2, 9878)").make("pass(60)").dueWear(0, 9999, 1, 9999, 2, 9998));
        sentence("A DAY goes: what is beyond 9999 is not kept", () ->
            new Run("goer(1, 0, 0, 0) set(0, 9999) pass(5) set(0, 1)").dueWear(0, 1).due("on(0, 10)", 1).due("on(1, 10)", 3));
        sentence("A DAY goes: on a CELL without a GOER's TREADS nothing is more", () ->
            new Run("goer(0, 0, 5, 5) set(4, 9999)").make("pass(60)").dueWear(4, 9999, 5, 60));
        sentence("A DAY goes: DAY is 1 more", () -> new Run("pass(1)").due("told(0)", 1).make("pass(1)").due("told(0)", 2));
    }

    // ---- part 2

    private static void beyondTheMost() {
        sentence("goes on from how all is (WEAR beyond 9999, too): ON", () ->
            new Run("goer(1, 0, 0, 0) set(0, 9998)").due("on(0, 10)", 9998).due("on(1, 10)", 10000).due("on(60, 10)", 10118)
                .due("on(60, 1)", 10118).due("told(10)", 9998));
        sentence("goes on from how all is (WEAR beyond 9999, too): STAND", () ->
            new Run("goer(0, 0, 0, 2) set(0, 9999) set(1, 9999) set(2, 9999)").due("best(0)", cells(1, 4)));
        sentence("goes on from how all is (WEAR beyond 9999, too): SEEN", () ->
            new Run("goer(0, 0, 7, 7) set(7, 9999) see(7, 20, 20)").due("sole()", 1).due("starts(0)", 65535).due("can(0, 0)", 10));
        sentence("goes on from how all is (WEAR beyond 9999, too): MEAN", () ->
            new Run("goer(0, 0, 7, 7) set(7, 9999)").due("mean(1, 0)", 625).due("mean(1, 1)", 1));
        sentence("goes on from how all is (WEAR beyond 9999, too): ENDS", () ->
            new Run("goer(0, 0, 7, 7) set(7, 9999) plan(0, 0) plan(0, 0)").due("ends(0)", 10001).due("ends(1)", 1));
        sentence("goes on from how all is (DAYS beyond 9999, too): ON, WORN, FIRST", () -> {
            Run x = old("goer(3, 0, 0, 0)").due("pass(39)", 9999).due("told(10)", 4999);
            x.due("on(1, 10)", 5000).due("on(2, 10)", 5000).due("on(3, 10)", 5001).due("on(60, 10)", 5029).due("told(0)", 9999);
            x.make("set(0, 28)").due("worn(0)", 3).due("told(6)", 0);
        });
        sentence("goes on from how all is (DAYS beyond 9999, too): WHO, SEEN, ODDS, ENDS", () -> {
            Run x = old("goer(3, 0, 0, 0) goer(6, 0, 1, 1) row(1, 0, 3)").due("pass(39)", 9999);
            x.due("who(1, 1, 0)", 1).due("who(3, 1, 0)", 3).due("who(2, 1, 0)", 2);
            x.make("set(0, 0) set(1, 0) see(1, 4, 2)").due("sole()", 2).make("plan(0, 0) plan(0, 0)").due("ends(0)", 1 + 4);
            x.make("set(1, 26)").due("odds(1, 2, 0)", 1).due("odds(1, 2, 1)", 2).due("odds(1, 1, 0)", 0);
        });
    }

    private static void daysAsked() {
        sentence("ON n DAYS (0 .. 60): none, the most", () -> {
            Run x = new Run("goer(0, 0, 0, 1) set(5, 30)").due("on(0, 0)", cells(5)).due("on(0, 1)", 30).due("on(0, 10)", 0);
            x.due("on(60, 0)", cells(0, 1, 5)).due("on(60, 1)", 150).due("on(60, 10)", 60).due("on(29, 0)", cells(5));
        });
        sentence("WORN: the fewest DAYS (0 .. 60) behind which it is BALD: 0", () ->
            new Run("goer(0, 0, 0, 0) set(0, 30) set(1, 31)").due("worn(0) worn(1)", 0));
        sentence("WORN: the fewest DAYS (0 .. 60) behind which it is BALD: 1", () -> new Run("goer(0, 0, 0, 0) set(0, 29)").due("worn(0)", 1));
        sentence("WORN: the fewest DAYS (0 .. 60) behind which it is BALD: 60", () ->
            new Run("goer(0, 0, 0, 0)").room("bald 60").due("worn(0)", 60));
        sentence("WORN: (-5: not by then)", () -> {
            new Run("goer(0, 0, 0, 0)").room("bald 61").due("worn(0)", NOT_ANY);
            new Run("set(0, 29)").due("worn(0)", NOT_ANY);
        });
        sentence("FIRST: the CELL whose WORN is least, being above 0", () -> {
            new Run("goer(1, 0, 4, 4) goer(0, 0, 9, 9) set(2, 30)").due("told(6)", 4).make("set(9, 16)").due("told(6)", 9)
                .make("set(9, 30)").due("told(6)", 4);
        });
        sentence("FIRST: (of several the first)", () ->
            new Run("goer(0, 0, 14, 14) goer(0, 0, 1, 1) goer(1, 0, 8, 8) set(14, 29) set(1, 29) set(8, 28)").due("told(6)", 1));
        sentence("FIRST: (-5: none): all are BALD, or none by then", () -> {
            new Run("goer(0, 0, 3, 3)").room("bald 0").due("told(6)", NOT_ANY);
            new Run("goer(0, 0, 3, 3) set(3, 30)").due("told(6)", NOT_ANY);
            new Run("goer(0, 0, 3, 3)").room("bald 61").due("told(6)", NOT_ANY);
            new Run().due("told(6)", NOT_ANY);
        });
        sentence("FIRST: behind 60", () -> new Run("goer(0, 0, 3, 3)").room("bald 60").due("told(6)", 3));
        sentence("MEET: none, one, all", () -> {
            new Run("goer(0, 0, 0, 3) goer(0, 0, 4, 7)").due("meet(0, 1) meet(1, 0)", 0);
            new Run("goer(0, 0, 0, 3) goer(0, 0, 1, 13)").due("meet(0, 1) meet(1, 0)", cells(1));
            new Run("goer(0, 0, 0, 3) goer(1, 0, 3, 0)").due("meet(0, 1)", cells(0, 1, 2, 3));
        });
        sentence("MEET: on both their WAYS: one has none, one is AWAY", () -> {
            new Run("goer(0, 0, 0, 3) goer(0, 0, 0, 3) stand(0, true)").due("meet(0, 1)", 0);
            new Run("goer(2, 0, 0, 3) goer(0, 0, 0, 3) stand(0, true)").due("meet(0, 1)", 0);
            new Run("goer(0, 0, 0, 3) goer(0, 0, 2, 2) away(0, true) away(1, true)").due("meet(0, 1)", cells(2));
        });
        sentence("ALL WAYS: nobody, one who does not tread on that DAY, a CELL that YIELDS 0", () -> {
            new Run().due("told(5)", 0);
            new Run("goer(3, 0, 0, 1)").due("told(5)", 0).make("pass(1)").due("told(5)", 3);
            new Run("goer(6, 0, 0, 1) row(0, 0, 1)").due("told(5)", 1).make("pass(1)").due("told(5)", 3);
            new Run("goer(0, 0, 0, 1)").room("hard 9 c<16").due("told(5)", 3);
        });
        sentence("ALL WAYS: all CELLS", () ->
            new Run("goer(0, 0, 0, 3) goer(0, 0, 4, 7) goer(0, 0, 8, 11) goer(0, 0, 12, 15)").due("told(5)", 65535));
    }

    private static void who() {
        sentence("WHO: (the empty one, too)", () -> {
            new Run().due("who(0, 1, 0)", 0).due("who(0, 1, 1)", 1).due("who(0, 20, 0)", 0);
            new Run("goer(0, 0, 0, 0)").due("who(0, 1, 0)", 0).due("who(0, 1, 1)", 1);
        });
        sentence("WHO: of all sets of GOERS who are not AWAY", () -> {
            new Run("goer(0, 0, 0, 0) goer(0, 0, 0, 0) away(0, true)").due("who(1, 1, 0)", 2).due("who(1, 1, 1)", 1);
            new Run("goer(0, 0, 0, 0) away(0, true)").due("who(1, 1, 0)", NOT_ANY).due("who(0, 1, 1)", 1);
        });
        sentence("WHO: were all WEAR 0 now", () -> new Run("goer(0, 0, 0, 0) set(9, 500)").due("who(1, 1, 0)", 1).due("who(513, 1, 0)", NOT_ANY));
        sentence("WHO: just the CELLS of PRINT", () ->
            new Run("goer(0, 0, 0, 2)").due("who(7, 1, 0)", 1).due("who(3, 1, 0) who(15, 1, 0) who(6, 1, 0) who(1, 1, 0)", NOT_ANY));
        sentence("WHO: PRINT 65535", () -> {
            new Run("goer(0, 0, 0, 3) goer(0, 0, 4, 7) goer(0, 0, 8, 11) goer(0, 0, 12, 15)").due("who(65535, 1, 0)", 15)
                .due("who(65535, 1, 1)", 1).due("who(65534, 1, 0)", NOT_ANY);
        });
        sentence("WHO: WEAR above 0 behind n: 1, 2", () ->
            new Run("goer(3, 0, 4, 4)").due("who(16, 1, 0)", NOT_ANY).due("who(16, 2, 0) who(16, 20, 0)", 1));
        sentence("WHO: WEAR above 0 behind n: 3, 4", () ->
            new Run("goer(6, 0, 4, 5) row(0, 3, 1) pass(1)").due("who(48, 1, 0)", 1)
                .make("goer(6, 0, 9, 9) row(1, 3, 9) row(1, 0, 1) pass(1)").due("who(512, 1, 0)", NOT_ANY).due("who(512, 2, 0)", 2));
        sentence("WHO: WEAR above 0: a CELL that YIELDS 0 is none", () ->
            new Run("goer(0, 0, 0, 2)").room("hard 1 c=1").due("who(5, 20, 0)", 1).due("who(7, 20, 0)", NOT_ANY));
        sentence("WHO: that with the fewest GOERS", () ->
            new Run("goer(0, 0, 0, 0) goer(0, 0, 1, 1) goer(0, 0, 2, 2) goer(0, 0, 0, 2)").due("who(7, 1, 0)", 8).due("who(7, 1, 1)", 9));
        sentence("WHO: (of several the least as bits)", () -> {
            Run x = new Run("goer(0, 0, 2, 2) goer(0, 0, 0, 1) goer(0, 0, 1, 2) goer(0, 0, 0, 0)").due("who(7, 1, 0)", 3);
            x.due("who(7, 1, 1)", 8).make("away(0, true)").due("who(7, 1, 0)", 6);
        });
        sentence("WHO: how many these are, all of them: none, all", () -> {
            new Run("goer(0, 0, 0, 0)").due("who(2, 1, 1)", 0).due("who(2, 1, 0)", NOT_ANY);
            new Run().times(6, "goer(1, 9, 15, 15)").due("who(32768, 1, 1)", 63).due("who(32768, 1, 0)", 1).due("who(0, 1, 1)", 1);
        });
    }

    private static void stand() {
        sentence("STAND of two or fewer: one", () -> new Run("goer(0, 0, 0, 2) stand(4, true)").due("best(0)", cells(1)));
        sentence("STAND of two or fewer: two", () -> new Run("goer(0, 0, 0, 2)").due("best(0)", cells(1, 4)));
        sentence("STAND of two or fewer: three would help", () ->
            new Run("goer(0, 0, 5, 10) stand(12, true) stand(15, true) stand(0, true)").due("best(0)", NOT_ANY)
                .make("stand(1, true) stand(4, true)").due("best(0)", cells(6, 9)));
        sentence("STAND: of CELLS without FURNITURE: none is left", () -> {
            Run x = new Run("goer(2, 0, 0, 3) goer(0, 0, 9, 9)");
            for (int c = 0; c < 16; c++) if (c != 9) x.make("stand(" + c + ", true)");
            x.due("best(0)", NOT_ANY);
        });
        sentence("STAND: of CELLS without FURNITURE: those that the PLAN would furnish have none", () ->
            new Run("goer(0, 0, 0, 2) plan(3, 1) plan(3, 4) plan(0, 0)").due("ends(0)", 0).due("best(0)", cells(1, 4)));
        sentence("STAND: none of them FROM or TO of anybody", () -> {
            new Run("goer(0, 0, 0, 2) goer(0, 0, 4, 15) away(1, true)").due("best(0)", NOT_ANY);
            new Run("goer(0, 0, 0, 2) goer(0, 0, 15, 4) away(1, true)").due("best(0)", NOT_ANY);
            new Run("goer(0, 0, 0, 2) goer(0, 0, 1, 15) away(1, true)").due("best(0)", NOT_ANY);
            new Run("goer(0, 0, 0, 2) goer(0, 0, 15, 1) away(1, true)").due("best(0)", NOT_ANY);
        });
        sentence("STAND: neither FROM nor TO of the one who would be stopped", () ->
            new Run("goer(0, 0, 0, 1)").due("best(0)", NOT_ANY).make("move(0, 0, 1)").due("best(0)", NOT_ANY));
        sentence("STAND: WEAR of all behind 10 DAYS", () -> {
            // On 1 it stops the told one, who wears 15 and his part on the days 1, 5, 9, and costs the other 4 cells a day.
            String barred = "stand(4, true) stand(6, true) stand(8, true) stand(12, true) stand(13, true) stand(14, true) stand(15, true)";
            Run x = new Run("goer(6, 0, 0, 2) goer(0, 0, 5, 2) goer(0, 0, 9, 10) goer(0, 0, 11, 7) goer(0, 0, 3, 3)").make(barred);
            x.make("away(2, true) away(3, true) away(4, true) row(0, 1, 9)").due("best(0)", cells(1));
            x.make("row(0, 1, 8)").due("best(0)", NOT_ANY).make("row(0, 1, 9) row(0, 2, 9) row(0, 1, 0)").due("best(0)", NOT_ANY);
        });
        sentence("STAND: (-5: none): no GOERS, all AWAY, all BLIND", () -> {
            new Run().due("best(0)", NOT_ANY);
            new Run("goer(0, 0, 0, 2) away(0, true)").due("best(0)", NOT_ANY);
            new Run("goer(2, 0, 0, 2) goer(5, 0, 3, 3)").due("best(0)", NOT_ANY);
        });
    }

    private static void standOfSeveral() {
        sentence("STAND: if less than it is: just as much is not", () -> {
            // Without 1 he goes 0, 4, 5, 6, 2, and 4, 5 yield nothing; 4 is kept free by one who is away.
            Run x = new Run("goer(0, 0, 0, 2) goer(0, 0, 4, 4) away(1, true)").room("hard 1 c=4|c=5").due("best(0)", NOT_ANY);
            x.room("hard 1 c=4|c=5|c=6").due("best(0)", cells(1));
        });
        sentence("STAND: (of several the least as bits): one rather than two with another", () ->
            new Run("goer(0, 0, 0, 15) stand(4, true)").due("best(0)", cells(1)));
        sentence("STAND: (of several the least as bits): the first corner", () -> new Run("goer(0, 0, 15, 0)").due("best(0)", cells(1, 4)));
        sentence("STAND: (of several the least as bits): not the first as numbers", () ->
            new Run("goer(0, 0, 1, 8) stand(2, true) stand(9, true) stand(12, true)").due("best(0)", cells(4)));
        sentence("STAND: the first CELL, the last", () -> {
            new Run("goer(0, 0, 1, 4) stand(2, true) stand(6, true) stand(8, true)").due("best(0)", cells(0, 5));
            new Run("goer(0, 0, 14, 11) stand(13, true) stand(9, true) stand(7, true)").due("best(0)", cells(10, 15));
        });
    }

    private static void lay() {
        sentence("LAY: BALD behind 20 DAYS: just, just not", () -> {
            new Run("goer(0, 0, 5, 5) set(5, 10)").due("best(1)", 5);
            new Run("goer(0, 0, 5, 5) set(5, 9)").due("best(1)", NOT_ANY);
        });
        sentence("LAY: were its WEAR 0 now: it would be BALD all the same, just not", () -> {
            new Run("goer(0, 0, 5, 5) set(5, 50)").room("bald 20").due("best(1)", NOT_ANY);
            new Run("goer(0, 0, 5, 5) set(5, 50)").room("bald 21").due("best(1)", 5);
        });
        sentence("LAY: (of several the first)", () -> {
            new Run("set(9, 30) set(3, 9999) set(15, 31)").due("best(1)", 3);
            new Run("goer(1, 0, 3, 3) set(9, 30) set(3, 9999) set(15, 31)").due("best(1)", 9);
        });
        sentence("LAY: the first CELL, the last", () -> {
            new Run("set(0, 30) set(15, 30)").due("best(1)", 0);
            new Run("set(15, 30)").due("best(1)", 15);
        });
        sentence("LAY: (-5: none): none is BALD, all are by 0", () -> {
            new Run("set(0, 29)").due("best(1)", NOT_ANY);
            new Run("set(0, 29)").room("bald 0").due("best(1)", NOT_ANY);
        });
        sentence("LAY: all CELLS but one are BALD all the same", () -> {
            Run x = new Run("goer(0, 0, 0, 3) goer(0, 0, 4, 7) goer(0, 0, 8, 11) goer(0, 0, 12, 15) set(6, 1)");
            x.room("bald 1").due("best(1)", NOT_ANY).room("bald 1;hard 1 c=6").due("best(1)", 6);
        });
    }

    private static void seen() {
        sentence("SEEN: none: all is so", () -> {
            Run x = new Run("goer(0, 0, 0, 0) goer(4, 9, 3, 3)").due("starts(0) starts(1)", 65535);
            x.due("can(0, 0) can(1, 0)", 10).due("can(0, 1) can(1, 1)", 0).due("sole()", 3);
        });
        sentence("SEEN: how much more WEAR it has: neither less nor more", () -> {
            Run x = new Run("goer(0, 0, 7, 7) set(7, 40)").make("see(7, 3, 3)").due("sole()", 1);
            x.make("see(-1, 0, 0) see(7, 2, 3)").due("sole()", 0).make("see(-1, 0, 0) see(7, 4, 3)").due("sole()", 0);
            x.make("see(-1, 0, 0) see(7, 43, 3)").due("sole()", 0);
        });
        sentence("SEEN: behind n DAYS (0 .. 20): 0, 20", () -> {
            new Run("goer(0, 0, 7, 7) see(7, 0, 0)").due("sole()", 1).due("starts(0)", 65535).make("see(7, 1, 0)").due("sole() starts(0)", 0);
            new Run("goer(0, 0, 7, 7) see(7, 20, 20) see(6, 0, 20)").due("sole()", 1).due("starts(0)", cells(0, 1, 2, 3, 7, 11, 15));
        });
        sentence("SEEN: all of it: the last is not so", () ->
            new Run("goer(0, 0, 7, 7) see(7, 1, 1) see(7, 2, 2) see(7, 3, 3) see(7, 4, 4)").due("sole()", 1).make("see(7, 6, 5)")
                .due("sole() starts(0) can(0, 0)", 0).due("can(0, 1)", NOT_ANY));
        sentence("STARTS: were FROM there: where it is, at TO, on FURNITURE, where there is no WAY", () -> {
            Run x = new Run("goer(0, 0, 0, 2) see(2, 1, 1) stand(9, true) stand(3, true)").due("starts(0)", 65535 - cells(3, 9));
            x.make("see(-1, 0, 0) see(2, 0, 1)").due("starts(0)", cells(3, 9));
            x.make("stand(1, true) stand(6, true)").due("starts(0)", 65535 - cells(2));
        });
        sentence("STARTS: were FROM there: the ROW of a TOLD one is there, too", () ->
            new Run("goer(6, 0, 0, 2) row(0, 0, 4) see(1, 4, 1)").due("starts(0)", cells(1)).make("see(1, 5, 2)").due("starts(0)", cells(1)));
        sentence("STARTS: none", () -> new Run("goer(0, 0, 0, 2) see(2, 2, 1)").due("starts(0)", 0));
        sentence("STARTS: of one who is AWAY", () ->
            new Run("goer(0, 0, 0, 2) away(0, true) see(2, 1, 1)").due("starts(0)", 0).make("see(-1, 0, 0) see(2, 0, 1)").due("starts(0)", 65535));
        sentence("CAN: numbers v (0 .. 9): the least, the most", () -> {
            Run x = new Run("goer(4, 5, 0, 1) see(1, 2, 1)").due("can(0, 0)", 1).due("can(0, 1)", 0);
            x.make("see(-1, 0, 0) see(1, 11, 1)").due("can(0, 0)", 1).due("can(0, 1)", 9);
        });
        sentence("CAN: numbers v (0 .. 9): (-5: none)", () -> {
            Run x = new Run("goer(4, 5, 0, 1) see(1, 12, 1)").due("can(0, 0)", 0).due("can(0, 1)", NOT_ANY);
            x.make("see(-1, 0, 0) see(1, 1, 1)").due("can(0, 0)", 0).due("can(0, 1)", NOT_ANY);
        });
        sentence("CAN: numbers v (0 .. 9): by what the CELLS YIELD to it", () ->
            new Run("goer(0, 5, 0, 1) see(1, 3, 1)").room("soft 1 v<9&v>0;soft 1 v>7").due("can(0, 0)", 1).due("can(0, 1)", 8));
        sentence("SOLE: those, all others being AWAY: none, one, all", () -> {
            Run x = new Run("goer(0, 0, 0, 2) goer(0, 0, 1, 1) goer(0, 0, 2, 0) see(1, 1, 1)").due("sole()", 7);
            x.make("see(2, 0, 1)").due("sole()", 2).make("see(0, 1, 1)").due("sole()", 0);
            new Run("see(1, 0, 1)").due("sole()", 0);
        });
        sentence("SOLE: (and it not)", () -> new Run("goer(0, 0, 0, 0) away(0, true) see(0, 1, 1)").due("sole()", 1).due("of(0, 4)", 1));
    }

    private static void oddsAndMeans() {
        sentence("ODDS: (NO: there are none)", () -> new Run("set(0, 30)").due("odds(0, 0, 0) odds(0, 0, 1) odds(0, 60, 0)", NO));
        sentence("ODDS: one GOER", () -> {
            Run x = new Run("goer(1, 0, 0, 0)").due("odds(0, 60, 0)", 0).due("odds(0, 60, 1)", 1);
            x.make("set(0, 30)").due("odds(0, 0, 0) odds(0, 0, 1) odds(0, 60, 0)", 1);
        });
        sentence("ODDS: a fraction in lowest terms: of six 0, 1, 2, 3, 4, 5, 6", () -> {
            int[][] fractions = {{0, 1}, {1, 6}, {1, 3}, {1, 2}, {2, 3}, {5, 6}, {1, 1}};
            for (int bald = 0; bald <= 6; bald++) {
                // Who treads 15 must stay, as all of them are wanted for 30 behind a day, but for those who tread 9.
                Run x = new Run();
                for (int g = 0; g < 6; g++) x.make("goer(0, 0, " + (g < 6 - bald ? "15, 15)" : "9, 9)"));
                x.make("set(15, " + (30 - (6 - bald)) + ")").due("odds(15, 1, 0)", bald == 6 ? 1 : fractions[bald][0])
                    .due("odds(15, 1, 1)", fractions[bald][1]);
            }
        });
        sentence("ODDS: if one is AWAY who is so already", () ->
            new Run("goer(0, 0, 0, 0) goer(0, 0, 0, 0) away(1, true) set(0, 29)").due("odds(0, 1, 0)", 1).due("odds(0, 1, 1)", 2));
        sentence("ODDS: n DAYS (0 .. 60): 60, 59", () -> {
            Run x = new Run("goer(0, 0, 0, 0) goer(0, 0, 0, 0)").room("bald 60");
            x.due("odds(0, 60, 0) odds(0, 60, 1)", 1).due("odds(0, 59, 0)", 0);
        });
        sentence("MEAN: a fraction in lowest terms: 0, a part, a whole number, the most", () -> {
            new Run().due("mean(0, 0) mean(60, 0)", 0).due("mean(0, 1) mean(60, 1)", 1);
            new Run("set(3, 15)").due("mean(0, 0)", 15).due("mean(0, 1)", 16);
            new Run("set(3, 16)").due("mean(0, 0) mean(0, 1)", 1);
            new Run("set(3, 24)").due("mean(0, 0)", 3).due("mean(0, 1)", 2);
            Run x = new Run();
            for (int c = 0; c < 16; c++) x.make("set(" + c + ", 9999)");
            x.due("mean(0, 0)", 9999).due("mean(0, 1)", 1);
        });
        sentence("MEAN of n DAYS (0 .. 60): 60", () -> new Run("goer(0, 0, 0, 0)").due("mean(60, 0)", 15).due("mean(60, 1)", 4));
    }

    private static void plansAndBooks() {
        sentence("ENDS: no rows", () -> new Run("goer(0, 0, 0, 0) set(4, 30) set(5, 29)").due("ends(0)", 59).due("ends(1)", 1));
        sentence("ENDS: 10 rows", () -> new Run("goer(0, 0, 0, 0)").times(10, "plan(0, 0)").due("ends(0)", 10).room("bald 10").due("ends(1)", 1)
            .room("bald 11").due("ends(1)", 0));
        sentence("ENDS: 1 GOER n is AWAY: who is so already, who has come last", () ->
            new Run("goer(0, 0, 0, 0) goer(0, 0, 1, 1) away(0, true) plan(1, 0) plan(0, 0)").due("ends(0)", 1)
                .make("plan(1, 1) plan(0, 0)").due("ends(0)", 1));
        sentence("ENDS: 2 CELL n is laid new (WEAR 0): the first, the last, one that has none", () ->
            new Run("set(0, 9) set(15, 7) set(3, 1) plan(2, 0)").due("ends(0)", 8).make("plan(2, 15)").due("ends(0)", 1)
                .make("plan(2, 8)").due("ends(0)", 1));
        sentence("ENDS: 2 CELL n is laid new (WEAR 0): it wears again", () ->
            new Run("goer(1, 0, 3, 3) set(3, 50) plan(2, 3) plan(0, 0)").due("ends(0)", 2).due("ends(1)", 0).make("set(3, 0)").due("ends(0)", 2));
        sentence("ENDS: 3 CELL n has FURNITURE, or has none any more, the other way", () -> {
            Run x = new Run("goer(0, 0, 0, 0) stand(0, true) plan(0, 0)").due("ends(0)", 0).make("plan(3, 0) plan(0, 0)").due("ends(0)", 1);
            x.make("plan(3, 0) plan(0, 0)").due("ends(0)", 1).due("told(2)", 1);
            for (int c = 0; c < 16; c++) {
                new Run("goer(0, 0, " + c + ", " + c + ") plan(0, 0) plan(3, " + c + ") plan(0, 0)").due("ends(0)", 1);
            }
        });
        sentence("LOOKED at: the number of the first of these rows: the first, the last", () -> {
            Run x = new Run("set(0, 9999)").make("book(0, 9999)").times(6, "book(3, 0)").make("book(15, 1)").due("looked()", 7);
            x.make("set(15, 1)").due("looked()", NOT_ANY).make("set(0, 9998)").due("looked()", 0).make("set(15, 2)").due("looked()", 0);
        });
        sentence("LOOKED at: (-5: none): no rows", () -> new Run("set(0, 9)").due("looked()", NOT_ANY));
    }

    private static void acts() {
        sentence("ACTS with x (wrapping): x + i", () ->
            new Run("goer(0, 0, 0, 0) goer(1, 0, 0, 0)").due("act(1, 0, MAX)", Integer.MIN_VALUE).due("act(0, 0, MAX)", Integer.MAX_VALUE));
        sentence("ACTS with x (wrapping): steps(x) - v", () -> new Run("goer(0, 9, 0, 0)").due("act(0, 1, MIN)", Integer.MAX_VALUE - 8));
        sentence("ACTS with x (wrapping): turns(x) * 2", () ->
            new Run("goer(0, 0, 0, 0)").due("act(0, 2, 1073741824)", Integer.MIN_VALUE).due("act(0, 2, MIN)", 0).due("act(0, 2, MAX)", -2));
        sentence("ACTS with x (wrapping): x * 3", () -> new Run("goer(2, 0, 0, 0)").due("act(0, 0, MAX)", Integer.MAX_VALUE - 2)
            .due("act(0, 0, MIN)", Integer.MIN_VALUE).due("act(0, 0, 715827883)", Integer.MIN_VALUE + 1));
        sentence("ACTS with x (wrapping): -super.steps(x)", () ->
            new Run("goer(4, 0, 0, 0)").due("act(0, 0, MIN)", Integer.MIN_VALUE).due("act(0, 0, MAX)", -Integer.MAX_VALUE));
        sentence("ACTS with x (wrapping): super.turns(x + 1)", () ->
            // MIN by x + 1, MIN again by -, less v, then ^ 6.
            new Run("goer(4, 1, 0, 0)").due("act(0, 1, MAX)", Integer.MAX_VALUE ^ 6));
        sentence("ACTS with x (wrapping): super.tells(x - i)", () ->
            new Run("goer(0, 0, 0, 0) goer(5, 0, 0, 0)").due("act(1, 2, MIN)", -4).due("act(1, 2, 1)", 2).due("act(1, 2, 0)", -4));
        sentence("ACTS with x (wrapping): super.tells(x) + turns(1), super.turns(x) + super.steps(2)", () -> {
            new Run("goer(3, 0, 0, 0)").due("act(0, 2, MAX)", -1).due("act(0, 2, 1073741823)", Integer.MAX_VALUE);
            new Run("goer(6, 0, 0, 0)").due("act(0, 1, MAX)", Integer.MIN_VALUE + 1);
        });
        sentence("the body of its KIND, or, if that has none, of the next KIND above that has one", () -> {
            int[][] first = {{10, 11, 12}, {10, 20, 12}, {30, 11, 12}, {10, 11, 40}, {50, 51, 12}, {30, 11, 60}, {71, 70, 40}};
            for (int k = 0; k < 7; k++) {
                Run x = new Run("goer(" + k + ", 0, 0, 0)");
                for (int act = 0; act < 3; act++) x.make("act(0, " + act + ", 3)").due("trace(0)", first[k][act]);
            }
        });
        sentence("super.steps(..): so from the KIND above the body's on: its last body", () -> {
            dueTrace(0, 2, 12, 11, 10);
            dueTrace(1, 2, 12, 20, 11, 10);
            dueTrace(2, 2, 12, 11, 30, 10);
            dueTrace(3, 2, 40, 12, 11, 10, 11, 10);
            dueTrace(4, 2, 12, 51, 20, 11, 50, 10);
            dueTrace(5, 2, 60, 12, 11, 30, 10);
            dueTrace(6, 1, 70, 11, 71, 10, 10);
        });
        sentence("^ 6, ^ v: of numbers below 0", () -> {
            new Run("goer(1, 0, 0, 0)").due("act(0, 1, -1)", -7).due("act(0, 1, 6)", 0);
            new Run("goer(6, 9, 0, 0)").due("act(0, 0, -1)", -10).due("act(0, 0, 9)", 0);
        });
        sentence("THE TRACE: the first 20 are kept: the most that run are 12", () -> {
            Run x = new Run("goer(6, 5, 0, 0)").make("act(0, 2, 4)").due("count(6)", 12);
            int[] bodies = {40, 12, 70, 11, 71, 10, 10, 70, 11, 71, 10, 10};
            for (int k = 0; k < 12; k++) x.due("trace(" + k + ")", bodies[k]);
            x.due("trace(12) trace(19) trace(20)", NONE);
        });
        sentence("THE TRACE: in the latest act()", () ->
            new Run("goer(6, 5, 0, 0) act(0, 2, 4)").make("act(0, 0, 4)").due("count(6)", 2).due("trace(0)", 71).due("trace(1)", 10).due("trace(2)", NONE));
    }

    private static void dueTrace(int kind, int act, int... bodies) {
        Run x = new Run("goer(" + kind + ", 4, 0, 0) act(0, " + act + ", 3)").due("count(6)", bodies.length);
        for (int k = 0; k < bodies.length; k++) x.due("trace(" + k + ")", bodies[k]);
    }

    private static void image() {
        sentence("THE IMAGE: CELLS", () -> new Run("set(0, 9999) set(15, 1) image() set(0, 0) set(15, 9) set(3, 3) undo()").dueWear(0, 9999, 15, 1));
        sentence("THE IMAGE: FURNITURE", () ->
            new Run("goer(0, 0, 0, 2) stand(1, true) image() stand(1, false) stand(0, true) undo()").due("told(2)", 2).dueWay(0, 0, 4, 5, 6, 2));
        sentence("THE IMAGE: GOERS: those who came behind it are gone", () -> {
            Run x = new Run("image() goer(0, 0, 0, 0)").due("undo()", 0).due("count(0)", 0).due("of(0, 0)", NONE).due("told(5)", 0);
            x.due("goer(3, 7, 8, 9)", 0).due("of(0, 0)", 3).due("of(0, 1)", 7).due("of(0, 2)", 8).due("of(0, 3)", 9).due("of(0, 4)", 0);
        });
        sentence("THE IMAGE: GOERS with all that is theirs", () -> {
            Run x = new Run("goer(6, 7, 8, 9) row(0, 0, 3) row(0, 3, 9) away(0, true) image()");
            x.make("away(0, false) move(0, 0, 1) move(0, 1, 2) row(0, 0, 0) row(0, 3, 1) undo()").due("of(0, 4)", 1).dueWay(0, 8, 9);
            x.due("of(0, 1)", 7).due("row(0, 0, 0)", 3).due("row(0, 3, 0)", 9).due("row(0, 1, 0) row(0, 2, 0)", 0);
            Run y = new Run().times(5, "goer(0, 0, 0, 0)").make("goer(6, 7, 8, 9) row(5, 3, 9) away(5, true) image()");
            y.make("away(5, false) move(5, 0, 1) move(5, 1, 2) row(5, 3, 1) undo()").due("of(5, 4)", 1).dueWay(5, 8, 9).due("row(5, 3, 0)", 9);
        });
        sentence("THE IMAGE: GOERS: one who comes behind undo() has nothing of one who was undone", () ->
            new Run("image() goer(6, 9, 1, 1) away(0, true) row(0, 0, 9) undo()").due("goer(6, 0, 2, 2)", 0).due("of(0, 4) of(0, 1) of(0, 32)", 0)
                .due("row(0, 0, 0)", 0));
        sentence("THE IMAGE: DAY", () -> new Run("pass(3) image() pass(60)").due("undo()", 0).due("told(0)", 3).due("pass(0)", 3));
        sentence("THE IMAGE: SEEN", () -> {
            Run x = new Run("goer(0, 0, 7, 7) see(7, 1, 1) image() see(7, 9, 1) undo()").due("count(2)", 1).due("sole()", 1);
            x.make("see(-1, 0, 0) see(6, 8, 3) see(7, 8, 2) undo()").due("count(2)", 1).due("sole()", 1).due("see(7, 2, 2)", 2).due("sole()", 1);
            x.make("see(-1, 0, 0) see(6, 1, 1) undo()").due("sole()", 1).make("see(-1, 0, 0) see(7, 1, 3) undo()").due("sole()", 1);
        });
        sentence("THE IMAGE: the PLAN", () -> {
            Run x = new Run("set(3, 5) set(4, 6) plan(2, 3) image() plan(2, 4) undo()").due("count(3)", 1).due("ends(0)", 6);
            x.make("plan(-1, 0) plan(0, 4) plan(3, 3) undo()").due("count(3)", 1).due("ends(0)", 6).due("plan(2, 4)", 2).due("ends(0)", 0);
        });
        sentence("THE IMAGE: the BOOK", () -> {
            Run x = new Run("set(5, 2) book(3, 0) image() book(4, 1) undo()").due("count(4)", 1).due("looked()", NOT_ANY);
            x.make("book(-1, 0) book(5, 1) book(4, 2) undo()").due("count(4)", 1).due("looked()", NOT_ANY).due("book(4, 1)", 2).due("looked()", 1);
        });
        sentence("THE IMAGE: which ROOM holds: an older one, none", () -> {
            Run x = new Run("goer(0, 0, 0, 0)").room("bald 4;soft 3 c=0").make("image()").room("bald 5;soft 1 c=0").make("undo()");
            x.due("told(1)", 4).due("of(0, 50)", 4).due("count(1)", 2).due("goer(0, 0, 0, 0)", 1).due("of(1, 50)", 4);
            x.dueRoom("bald 6", 2).due("told(1)", 6);
            new Run("goer(0, 0, 0, 0) image()").room("bald 5;soft 1 c=0").make("undo()").due("told(1)", 30).due("of(0, 50)", 1)
                .due("goer(0, 0, 0, 0)", 1).due("of(1, 50)", 1).make("see(0, 2, 1)").due("can(0, 0)", 10);
        });
    }

    private static void beyondTheImage() {
        sentence("THE IMAGE: which ROOM holds: none, however many come behind it", () -> {
            for (int rooms = 1; rooms <= 6; rooms++) {
                Run x = new Run("goer(0, 0, 0, 0) image()");
                for (int k = 0; k < rooms; k++) x.room("bald 5;soft 3 c=0");
                x.text("bald 6;soft 2 c=0").make("undo()").due("told(1)", 30).due("goer(0, 0, 0, 0)", 1).due("of(0, 50) of(1, 50)", 1);
                x.make("away(1, true) see(0, 1, 1)").due("can(0, 0)", 10);
            }
        });
        sentence("THE IMAGE: ROOMS are not in it: they stay, 6 at most", () -> {
            Run x = new Run("image()");
            for (int k = 0; k < 6; k++) x.dueRoom("bald " + k, k).make("undo()");
            x.due("count(1)", 6).dueRoom("bald 9", FULL).due("told(1)", 30);
        });
        sentence("THE IMAGE: THE TEXT is not in it", () -> new Run("feed(98) image() feed(97) undo()").due("count(5)", 2).due("feed(108)", 3));
        sentence("THE IMAGE: TAPES are not in it", () ->
            new Run("tape(0, 2, 2) image() item(0, 1, 5) tape(1, 3, 1) undo()").due("read(0, 1)", 5).due("read(1, 0)", 0));
        sentence("THE IMAGE: THE TRACE is not in it", () ->
            new Run("goer(1, 0, 0, 0) act(0, 0, 0) image() act(0, 1, 0) undo()").due("count(6)", 3).due("trace(0)", 20));
        sentence("THE IMAGE: it stays behind undo(), and is not what goes on then", () -> {
            Run x = new Run("set(1, 5) image() set(1, 6) undo()").due("told(11)", 5).make("set(1, 7) undo()").due("told(11)", 5);
            x.make("set(1, 8) image() set(1, 9) undo()").due("told(11)", 8);
        });
    }

    // ---- part 3

    private static void judged() {
        String told = "set(0, 5) set(1, 9999) set(15, 7)";
        String tape = "item(0, 0, 5) item(0, 1, 9999) item(0, 15, 7)";
        sentence("JUDGED: the first that is otherwise: the first CELL, the last", () -> {
            Run x = new Run(told).make("tape(0, 1, 16)").make(tape).due("judge(0, 0)", NOT_ANY);
            x.make("item(0, 15, 8)").due("judge(0, 0)", 15).make("item(0, 0, 4)").due("judge(0, 0)", 0).make("item(0, 15, 7)").due("judge(0, 0)", 0);
        });
        sentence("JUDGED: (-5: none): just as many as there are CELLS, more", () -> {
            new Run("tape(0, 1, 16)").due("judge(0, 0)", NOT_ANY);
            new Run("tape(0, 1, 17) item(0, 16, 1)").due("judge(0, 0)", NOT_ANY).due("judge(0, 1)", 15);
            new Run("tape(0, 1, 60)").due("judge(0, 0) judge(0, 44)", NOT_ANY).due("judge(0, 45)", 115);
        });
        sentence("JUDGED: 100 and how many were looked at, if the row ends ahead of that", () -> {
            new Run("tape(0, 1, 15)").due("judge(0, 0)", 115).due("judge(0, 1)", 114).due("judge(0, 14)", 101);
            new Run("tape(0, 1, 1)").due("judge(0, 0)", 101);
            new Run("tape(0, 1, 15) set(14, 1)").due("judge(0, 0)", 14).due("judge(0, 1)", 114);
        });
        sentence("JUDGED: 100: a row of none, the place at its end, beyond", () -> {
            new Run("tape(0, 1, 0)").due("judge(0, 0) judge(0, 1) judge(0, -1)", 100);
            new Run("tape(0, 1, 20)").due("judge(0, 20) judge(0, 21) judge(0, MAX)", 100);
        });
        sentence("JUDGED: (or the place is below 0", () -> new Run("tape(0, 1, 20)").due("judge(0, -1) judge(0, -16) judge(0, MIN)", 100));
        sentence("JUDGED: or the TAPE holds nothing)", () ->
            new Run().due("judge(0, 0) judge(5, 0) judge(3, -1) judge(3, MAX)", 100).make("tape(0, 1, 9) tape(0, -1, 9)").due("judge(0, 0)", 100));
        sentence("JUDGED: a short below 0 is never WEAR", () -> new Run("tape(0, 1, 16) set(0, 9999) item(0, 0, -1)").due("judge(0, 0)", 0)
            .make("item(0, 0, 75535)").due("judge(0, 0)", NOT_ANY));
    }
}
