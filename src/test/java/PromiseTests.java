/** For each promise answers that were worked out by hand from the document. */
public final class PromiseTests extends Sentences {
    private static final int MIN = Integer.MIN_VALUE, MAX = Integer.MAX_VALUE;
    private static final int GOER = 0, PACER = 1, BLIND = 2, THIEF = 3, TURNER = 4, DANCER = 5, TOLD = 6;

    public static void main(String[] args) {
        sentence("1: a new object", PromiseTests::newObject);
        sentence("2: goer", PromiseTests::goer);
        sentence("3: of", PromiseTests::ofItsOwn);
        sentence("3: of: ways", PromiseTests::ofWays);
        sentence("3: of: treads", PromiseTests::ofTreads);
        sentence("3: of: yields", PromiseTests::ofYields);
        sentence("4: set", PromiseTests::set);
        sentence("5: move", PromiseTests::move);
        sentence("6: away", PromiseTests::away);
        sentence("7: stand", PromiseTests::stand);
        sentence("8: row", PromiseTests::row);
        sentence("9: feed", PromiseTests::feed);
        sentence("10: room", PromiseTests::room);
        sentence("10: room: faults", PromiseTests::roomFaults);
        sentence("11: told", PromiseTests::told);
        sentence("12: pass", PromiseTests::pass);
        sentence("13: on", PromiseTests::on);
        sentence("14: worn", PromiseTests::worn);
        sentence("15: meet", PromiseTests::meet);
        sentence("16: who", PromiseTests::who);
        sentence("17: best: stand", PromiseTests::bestStand);
        sentence("17: best: lay", PromiseTests::bestLay);
        sentence("18: see", PromiseTests::see);
        sentence("19: starts", PromiseTests::starts);
        sentence("20: can", PromiseTests::can);
        sentence("21: sole", PromiseTests::sole);
        sentence("22: odds", PromiseTests::odds);
        sentence("23: mean", PromiseTests::mean);
        sentence("24: plan", PromiseTests::plan);
        sentence("25: ends", PromiseTests::ends);
        sentence("26: book", PromiseTests::book);
        sentence("27: looked", PromiseTests::looked);
        sentence("28: judge", PromiseTests::judge);
        sentence("29: image, 30: undo", PromiseTests::imageAndUndo);
        sentence("31: act", PromiseTests::act);
        sentence("32: trace", PromiseTests::trace);
        sentence("33: taken", PromiseTests::taken);
        sentence("34: count", PromiseTests::count);
        sentence("35: tape", PromiseTests::tape);
        sentence("36: item", PromiseTests::item);
        sentence("37: read", PromiseTests::read);
        sentence("38: shift", PromiseTests::shift);
        sentence("the constants", PromiseTests::constants);
        sentence("README.md's example", PromiseTests::exampleOfReadme);
        end();
    }

    // ---- helpers

    private static CarpetReasons with(int... goers) {
        CarpetReasons x = new CarpetReasons();
        for (int k = 0; k + 3 < goers.length; k += 4) x.goer(goers[k], goers[k + 1], goers[k + 2], goers[k + 3]);
        return x;
    }

    private static int room(CarpetReasons x, String text) {
        for (char c : text.toCharArray()) x.feed(c);
        return x.room();
    }

    private static void dueWay(CarpetReasons x, int goer, int... way) {
        due("of(" + goer + ", 5)", x.of(goer, 5), way.length);
        for (int k = 0; k < 16; k++) {
            due("of(" + goer + ", 10 + " + k + ")", x.of(goer, 10 + k), k < way.length ? way[k] : NOT_ANY);
        }
    }

    /** Each cell not named is due to have 0 TREADS. */
    private static void dueTreads(CarpetReasons x, int goer, int... cellsAndTreads) {
        for (int c = 0; c < 16; c++) {
            int want = 0;
            for (int k = 0; k < cellsAndTreads.length; k += 2) if (cellsAndTreads[k] == c) want = cellsAndTreads[k + 1];
            due("treads of " + goer + " on " + c, x.of(goer, 30 + c), want);
        }
    }

    private static void dueTrace(CarpetReasons x, int... bodies) {
        due("count(6)", x.count(6), bodies.length);
        for (int k = 0; k < bodies.length; k++) due("trace(" + k + ")", x.trace(k), bodies[k]);
        due("trace behind the last", x.trace(bodies.length), NONE);
    }

    // ---- goers, rooms, the carpet

    private static void newObject() {
        CarpetReasons x = new CarpetReasons();
        for (int what = 0; what < 7; what++) due("count(" + what + ")", x.count(what), 0);
        for (int c = 0; c < 16; c++) due("wear of " + c, x.told(10 + c), 0);
        due("day", x.told(0), 0);
        due("bald's number", x.told(1), 30);
        due("furniture", x.told(2), 0);
        due("of(0, 0)", x.of(0, 0), NONE);
        due("undo()", x.undo(), STATE);
        due("trace(0)", x.trace(0), NONE);
        for (int t = 0; t < 6; t++) due("item of tape " + t, x.item(t, 0, 1), NOTHING);
    }

    private static void goer() {
        CarpetReasons x = new CarpetReasons();
        int[][] none = {{-1, 0, 0, 0}, {7, 0, 0, 0}, {0, 0, -1, 0}, {0, 0, 16, 0}, {0, 0, 0, -1}, {0, 0, 0, 16},
            {MIN, 0, 0, 0}, {MAX, 0, 0, 0}, {7, 10, 0, 0}, {0, -1, 16, 0}, {0, 10, 0, MAX}};
        for (int[] a : none) due("goer of no such", x.goer(a[0], a[1], a[2], a[3]), NONE);
        for (int v : new int[] {-1, 10, MIN, MAX}) due("goer with v " + v, x.goer(0, v, 0, 0), BAD);
        due("none came", x.count(0), 0);
        for (int k = 0; k < 6; k++) due("goer " + k, x.goer(k + 1, k == 0 ? 9 : 0, 15 - k, k), k);
        due("a seventh", x.goer(0, 0, 0, 0), FULL);
        due("none ahead of full", x.goer(7, 0, 0, 0), NONE);
        due("bad ahead of full", x.goer(0, 10, 0, 0), BAD);
        due("how many", x.count(0), 6);
        due("not away at first", x.of(3, 4), 0);

        CarpetReasons y = new CarpetReasons();
        y.image();
        y.goer(TOLD, 0, 0, 0);
        y.row(0, 0, 7);
        y.away(0, true);
        y.undo();
        due("the number of a goer who was undone", y.goer(TOLD, 1, 2, 2), 0);
        due("its row is its own", y.row(0, 0, 1), 0);
        due("it is not away", y.of(0, 4), 0);
        due("its v", y.of(0, 1), 1);
    }

    private static void ofItsOwn() {
        CarpetReasons x = with(TURNER, 7, 4, 11, GOER, 0, 0, 0);
        int[] own = {4, 7, 4, 11, 0};
        for (int what = 0; what < 5; what++) due("of(0, " + what + ")", x.of(0, what), own[what]);
        x.away(0, true);
        due("of(0, 4)", x.of(0, 4), 1);
        due("the other is not", x.of(1, 4), 0);
        for (int what : new int[] {-1, 6, 9, 26, 29, 46, 49, 66, MIN, MAX}) due("of(0, " + what + ")", x.of(0, what), NONE);
        for (int g : new int[] {-1, 2, 6, MIN, MAX}) due("of(" + g + ", 0)", x.of(g, 0), NONE);
    }

    private static void ofWays() {
        CarpetReasons x = with(GOER, 0, 0, 15, PACER, 0, 15, 0, BLIND, 0, 0, 3, DANCER, 0, 5, 5, GOER, 0, 13, 4,
            TOLD, 0, 7, 4);
        dueWay(x, 0, 0, 1, 2, 3, 7, 11, 15);
        dueWay(x, 1, 15, 11, 7, 3, 2, 1, 0);
        dueWay(x, 2, 0, 1, 2, 3);
        dueWay(x, 3, 5);
        dueWay(x, 4, 13, 9, 5, 4);
        dueWay(x, 5, 7, 6, 5, 4);
        x.stand(2, true);
        x.stand(5, true);
        dueWay(x, 0, 0, 4, 8, 9, 10, 11, 15);
        dueWay(x, 1, 15, 11, 10, 9, 8, 4, 0);
        dueWay(x, 2, 0, 1, 2, 3);
        dueWay(x, 3, 5);
        dueWay(x, 4, 13, 9, 8, 4);
        dueWay(x, 5, 7, 6, 10, 9, 8, 4);
        x.stand(9, true);
        dueWay(x, 0, 0, 4, 8, 12, 13, 14, 15);
        x.stand(10, true);
        x.stand(14, true);
        dueWay(x, 0);
        dueWay(x, 4, 13, 12, 8, 4);
        x.stand(4, true);
        dueWay(x, 4);
        x.stand(4, false);
        x.stand(13, true);
        dueWay(x, 4);
        x.away(2, true);
        dueWay(x, 2, 0, 1, 2, 3);

        CarpetReasons y = with(GOER, 0, 6, 6, BLIND, 0, 0, 15);
        y.stand(6, true);
        dueWay(y, 0);
        for (int c : new int[] {5, 6, 9, 10}) y.stand(c, true);
        dueWay(y, 1, 0, 1, 2, 3, 7, 11, 15);
        due("a seventh cell", y.of(1, 16), 15);
        due("an eighth", y.of(1, 17), NOT_ANY);
    }

    private static void ofTreads() {
        CarpetReasons x = with(GOER, 9, 0, 2, PACER, 9, 0, 2, BLIND, 9, 0, 2, THIEF, 9, 0, 2, TURNER, 3, 0, 2,
            DANCER, 9, 0, 2);
        dueTreads(x, 0, 0, 1, 1, 1, 2, 1);
        dueTreads(x, 1, 0, 2, 1, 2, 2, 2);
        dueTreads(x, 2, 0, 1, 1, 1, 2, 1);
        dueTreads(x, 3);
        dueTreads(x, 4, 0, 2, 1, 2, 2, 5);
        dueTreads(x, 5, 0, 1, 1, 2, 2, 1, 3, 1, 6, 1);
        x.pass(1);
        dueTreads(x, 0, 0, 1, 1, 1, 2, 1);
        dueTreads(x, 3, 0, 1, 1, 1, 2, 1);
        x.stand(1, true);
        dueTreads(x, 0, 0, 1, 4, 1, 5, 1, 6, 1, 2, 1);
        dueTreads(x, 5, 0, 1, 1, 2, 2, 1, 3, 1, 6, 1);
        x.stand(4, true);
        dueTreads(x, 0);
        dueTreads(x, 4);
        x.away(5, true);
        dueTreads(x, 5);

        CarpetReasons y = with(TOLD, 9, 10, 11, DANCER, 0, 15, 15);
        int[] row = {4, 0, 9, 7};
        for (int part = 0; part < 4; part++) y.row(0, part, row[part]);
        for (int day = 0; day < 9; day++) {
            int thief = day % 2;
            dueTreads(y, 0, 10, thief + row[day % 4], 11, thief);
            y.pass(1);
        }
        dueTreads(y, 1, 15, 1, 11, 1, 14, 1);
        y.stand(11, true);
        dueTreads(y, 0);
        y.stand(11, false);
        y.away(0, true);
        dueTreads(y, 0);
    }

    private static void ofYields() {
        CarpetReasons x = with(GOER, 2, 0, 0, DANCER, 9, 3, 5);
        for (int c = 0; c < 16; c++) due("without a room", x.of(0, 50 + c), 1);
        room(x, "soft 3 c=1|c=2|c=3&x=3|c=4&x=3");
        for (int c = 0; c < 16; c++) due("| and & in a row on " + c, x.of(0, 50 + c), c > 0 && c < 4 ? 4 : 1);
        String[] es = {"c=9", "r=2", "x>2", "g=1", "k<1", "v=2", "!v=2", "(c=0|c=1)&g=0", "c=0|c=1&g=0", "!c<4&!(r=3|x=0)",
            "c=06", "k=5&v=9&g>0", "!!!!r<1", "((((x=0))))"};
        int[] of0 = {cells(9), 0x0f00, 0x8888, 0, 65535, 65535, 0, cells(0, 1), cells(0, 1), 0x0ee0, cells(6), 0,
            0x000f, 0x1111};
        int[] of1 = {cells(9), 0x0f00, 0x8888, 65535, 0, 0, 65535, 0, cells(0), 0x0ee0, cells(6), 65535, 0x000f, 0x1111};
        for (int k = 0; k < es.length; k++) {
            x = with(GOER, 2, 0, 0, DANCER, 9, 3, 5);
            due("room of " + es[k], room(x, "soft 3 " + es[k]), 0);
            for (int c = 0; c < 16; c++) {
                due("soft for 0 by " + es[k] + " on " + c, x.of(0, 50 + c), (of0[k] >> c & 1) == 1 ? 4 : 1);
                due("soft for 1 by " + es[k] + " on " + c, x.of(1, 50 + c), (of1[k] >> c & 1) == 1 ? 4 : 1);
            }
        }
        room(x, "hard 9 c=0;soft 4 c<2;soft 05 c=0;hard 1 c=2;bald 7;hard 2 c=3");
        int[] want = {1, 5, 0, 0, 1};
        for (int c = 0; c < want.length; c++) due("together on " + c, x.of(0, 50 + c), want[c]);
        due("a goer who comes later", x.goer(GOER, 0, 1, 1), 2);
        for (int c = 0; c < want.length; c++) due("for it on " + c, x.of(2, 50 + c), want[c]);
        x.away(2, true);
        due("away it yields the same", x.of(2, 51), 5);
    }

    private static void set() {
        CarpetReasons x = new CarpetReasons();
        due("set(3, 9999)", x.set(3, 9999), 0);
        due("set(3, 0)", x.set(3, 0), 9999);
        due("set(15, 12)", x.set(15, 12), 0);
        for (int c : new int[] {-1, 16, MIN, MAX}) due("set(" + c + ", 10000)", x.set(c, 10000), NONE);
        for (int n : new int[] {-1, 10000, MIN, MAX}) due("set(15, " + n + ")", x.set(15, n), BAD);
        due("wear of 15", x.told(25), 12);
        due("wear of 3", x.told(13), 0);
    }

    private static void move() {
        CarpetReasons x = with(GOER, 0, 0, 3, GOER, 0, 5, 5);
        due("move(0, 0, 15)", x.move(0, 0, 15), 0);
        due("move(0, 1, 14)", x.move(0, 1, 14), 3);
        due("from", x.of(0, 2), 15);
        due("to", x.of(0, 3), 14);
        dueWay(x, 0, 15, 14);
        dueWay(x, 1, 5);
        int[][] none = {{-1, 0, 0}, {2, 0, 0}, {0, -1, 0}, {0, 2, 0}, {0, 0, -1}, {0, 1, 16}, {MAX, 0, 0}, {0, MIN, 0}};
        for (int[] a : none) due("move of no such", x.move(a[0], a[1], a[2]), NONE);
        dueWay(x, 0, 15, 14);
    }

    private static void away() {
        CarpetReasons x = with(GOER, 0, 0, 3, GOER, 0, 5, 5);
        due("away(1, false)", x.away(1, false), 0);
        due("away(1, true)", x.away(1, true), 0);
        due("away(1, true)", x.away(1, true), 1);
        due("of(0, 4)", x.of(0, 4), 0);
        due("away(1, false)", x.away(1, false), 1);
        due("of(1, 4)", x.of(1, 4), 0);
        for (int g : new int[] {-1, 2, 6, 32, MIN, MAX}) due("away(" + g + ", true)", x.away(g, true), NONE);
        due("all tread", x.told(5), cells(0, 1, 2, 3, 5));
    }

    private static void stand() {
        CarpetReasons x = new CarpetReasons();
        due("stand(0, false)", x.stand(0, false), 0);
        due("stand(15, true)", x.stand(15, true), 0);
        due("stand(15, true)", x.stand(15, true), 1);
        due("stand(2, true)", x.stand(2, true), 0);
        due("furniture", x.told(2), cells(2, 15));
        due("stand(15, false)", x.stand(15, false), 1);
        due("furniture", x.told(2), cells(2));
        for (int c : new int[] {-1, 16, 34, MIN, MAX}) due("stand(" + c + ", true)", x.stand(c, true), NONE);
        due("furniture", x.told(2), cells(2));
    }

    private static void row() {
        CarpetReasons x = with(THIEF, 0, 0, 3, TOLD, 0, 5, 5, TOLD, 0, 5, 5);
        due("row(1, 0, 9)", x.row(1, 0, 9), 0);
        due("row(1, 3, 5)", x.row(1, 3, 5), 0);
        due("row(1, 0, 2)", x.row(1, 0, 2), 9);
        due("row(2, 0, 1)", x.row(2, 0, 1), 0);
        due("row(1, 3, 0)", x.row(1, 3, 0), 5);
        int[][] none = {{-1, 0, 0}, {3, 0, 0}, {1, -1, 0}, {1, 4, 0}, {MAX, 0, 0}, {1, MIN, 0}, {0, 4, 10}, {3, 0, 10}};
        for (int[] a : none) due("row of no such", x.row(a[0], a[1], a[2]), NONE);
        due("bad", x.row(1, 0, -1), BAD);
        due("bad", x.row(1, 0, 10), BAD);
        due("bad ahead of state", x.row(0, 0, 10), BAD);
        due("another kind", x.row(0, 0, 9), STATE);
        due("it stays", x.row(1, 0, 0), 2);
    }

    private static void feed() {
        CarpetReasons x = new CarpetReasons();
        for (int sign : new int[] {-1, 128, MIN, MAX, 256}) due("feed(" + sign + ")", x.feed(sign), BAD);
        due("feed(0)", x.feed(0), 1);
        due("feed(127)", x.feed(127), 2);
        for (int k = 3; k <= 100; k++) due("feed a sign", x.feed('s'), k);
        due("the 101st", x.feed('s'), FULL);
        due("bad ahead of full", x.feed(128), BAD);
        due("count(5)", x.count(5), 100);
    }

    private static void room() {
        CarpetReasons x = with(GOER, 0, 0, 0);
        CarpetReasons w = new CarpetReasons();
        for (char c : "soft 5 c=0;bald 3".toCharArray()) w.feed(c);
        w.goer(GOER, 0, 0, 0);
        due("a text alone does not yield", w.of(0, 50), 1);
        due("nor says what is bald", w.told(1), 30);
        due("as a room", w.room(), 0);
        due("it does", w.of(0, 50), 6);
        due("a room", room(x, "bald 5;soft 2 c=0"), 0);
        due("the text is empty then", x.count(5), 0);
        due("its bald", x.told(1), 5);
        due("it yields", x.of(0, 50), 3);
        due("a newer one holds", room(x, "soft 1 c=1"), 1);
        due("the older one's bald does not", x.told(1), 30);
        due("nor its soft", x.of(0, 50), 1);
        due("the newer one's does", x.of(0, 51), 2);
        due("a fault", room(x, "bald 5;soft"), -21);
        due("the text is empty then", x.count(5), 0);
        due("the one that held holds", x.told(1), 30);
        due("and yields", x.of(0, 51), 2);
        due("the last bald", room(x, "bald 9;hard 1 c=1;bald 60;bald 08"), 2);
        due("is it", x.told(1), 8);
        due("bald 00", room(x, "bald 00"), 3);
        due("all are bald", x.told(3), 65535);
        due("a fifth", room(x, "bald 1"), 4);
        due("a sixth", room(x, "bald 2"), 5);
        due("rooms", x.count(1), 6);
        due("a seventh", room(x, "bald 3"), FULL);
        due("its text stays", x.count(5), 6);
        due("the sixth holds", x.told(1), 2);
        due("full ahead of a fault", room(x, "bald"), FULL);
        due("the text stays", x.count(5), 10);

        CarpetReasons y = new CarpetReasons();
        StringBuilder longest = new StringBuilder("soft 10 c=00");
        for (int k = 0; k < 22; k++) longest.append("|c=1");
        due("a text of 100", longest.length(), 100);
        due("is a room", room(y, longest.toString()), 0);
        due("ten clauses", room(y, "bald 1;bald 2;bald 3;bald 4;bald 5;bald 6;bald 7;bald 8;bald 9;bald 10"), 1);
        due("the tenth is the last", y.told(1), 10);
    }

    private static void roomFaults() {
        String[][] faults = {
            {"", "0"}, {" bald 1", "0"}, {"x", "0"}, {"s", "1"}, {"sofd", "3"}, {"hald", "2"}, {"bard", "2"},
            {"soft", "4"}, {"soft ", "5"}, {"soft1", "4"}, {"soft  1", "5"}, {"soft 1", "6"}, {"soft 12", "7"},
            {"soft 1;", "6"}, {"soft 1 ", "7"}, {"soft 1  c=1", "7"}, {"soft -1", "5"}, {"soft 100 c=1", "7"},
            {"soft 1 c", "8"}, {"soft 1 c=", "9"}, {"soft 1 c!1", "8"}, {"soft 1 c =1", "8"}, {"soft 1 c==1", "9"},
            {"soft 1 c=x", "9"}, {"soft 1 c=123", "11"}, {"soft 1 c=1 ", "10"}, {"soft 1 c=1)", "10"},
            {"soft 1 C=1", "7"}, {"soft 1 a=1", "7"}, {"soft 1 c=1&", "11"}, {"soft 1 c=1&&c=1", "11"},
            {"soft 1 c=1|;", "11"}, {"soft 1 (c=1", "11"}, {"soft 1 (c=1;", "11"}, {"soft 1 ()", "8"},
            {"soft 1 (c=1)c=2", "12"}, {"soft 1 (c=1)1", "12"}, {"soft 1 !", "8"}, {"soft 1 !&", "8"},
            {"soft 1 !!!!!c=1", "11"}, {"soft 1 ((((!c=1))))", "11"}, {"soft 1 !(!(!c=1))", "11"}, {"soft 1 !(!(c=1))", "-"},
            {"soft 1 !(!((c=1)))", "11"}, {"soft 1 !((!c=1)&!(c=1))", "-"}, {"soft 1 (((!c=1|(c=1))))", "-"}, {"soft 1 (((!c=1|((c=1)))))", "16"},
            {"soft 1 !(((c=1)))&((((c=1))))&!!!!c=1|c=1", "-"}, {"soft 1 !(!!c=1&(!(c=1)))", "17"},
            {"bald", "4"}, {"bald :", "5"}, {"bald /", "5"}, {"bald 1:", "6"}, {"bald 1/", "6"}, {"soft 1 c=/", "9"}, {"soft 1 c?1", "8"},
            {"bald 1 ", "6"}, {"bald 100", "7"}, {"bald 1;", "7"}, {"bald 1;;", "7"},
            {"bald 1;bald 2x", "13"}, {"bald 1; bald 2", "7"}, {"hard 0 v>9;soft 0 k<0|x=3&!g=5", "-"},
            {"bald 1;bald 2;bald 3;bald 4;bald 5;bald 6;bald 7;bald 8;bald 9;bald 0;", "69"},
            {"bald 1;bald 2;bald 3;bald 4;bald 5;bald 6;bald 7;bald 8;bald 9;bald 00;bald 1", "70"},
        };
        for (String[] f : faults) {
            int want = f[1].equals("-") ? 0 : -10 - Integer.parseInt(f[1]);
            due("room of '" + f[0] + "'", room(new CarpetReasons(), f[0]), want);
        }
        CarpetReasons x = new CarpetReasons();
        due("a longer text", room(x, "soft 1 c=1&c=2x"), -24);
        due("leaves nothing of it behind a shorter one", room(x, "soft 1 c="), -19);
        due("nor a digit", room(x, "soft 1 c=1&"), -21);
        due("nor more", room(x, "soft 1 c=1"), 0);
        due("the next is read alone", room(x, "bald"), -14);
        due("room of a 0 sign", room(new CarpetReasons(), "soft\u0000"), -14);
    }

    private static void told() {
        CarpetReasons x = with(GOER, 0, 0, 1, THIEF, 0, 8, 9, PACER, 0, 15, 15);
        x.set(4, 29);
        x.set(5, 30);
        x.set(6, 31);
        due("bald", x.told(3), cells(5, 6));
        due("wear of all", x.told(4), 90);
        due("wear of 4", x.told(14), 29);
        due("all ways on an even day", x.told(5), cells(0, 1, 15));
        due("first", x.told(6), 15);
        x.set(15, 30);
        due("first of several", x.told(6), 0);
        x.set(0, 0);
        x.set(1, 1);
        due("first is the least worn day", x.told(6), 1);
        x.pass(1);
        due("day", x.told(0), 1);
        due("all ways on an odd day", x.told(5), cells(0, 1, 8, 9, 15));
        x.away(0, true);
        due("all ways but his who is away", x.told(5), cells(8, 9, 15));
        due("first by a thief: on the days 1, 3, .. 59", x.told(6), 8);
        due("that is behind 59 days", x.worn(8), 59);
        room(x, "hard 1 r=2");
        due("what does not yield is trodden", x.told(5), cells(8, 9, 15));
        due("but is not worn", x.told(6), NOT_ANY);
        x.away(2, true);
        x.away(1, true);
        due("all ways of none", x.told(5), 0);
        CarpetReasons y = with(THIEF, 0, 2, 2);
        due("behind 60 days", y.told(6), 2);
        CarpetReasons z = with(GOER, 0, 2, 2);
        room(z, "bald 60");
        due("behind 60 days", z.told(6), 2);
        room(z, "bald 61");
        due("not by then", z.told(6), NOT_ANY);
        room(z, "bald 1");
        due("behind a day", z.told(6), 2);
        for (int what : new int[] {-1, 7, 9, 26, MIN, MAX}) due("told(" + what + ")", x.told(what), NONE);
    }

    // ---- days

    private static void pass() {
        CarpetReasons x = with(GOER, 0, 0, 1, PACER, 0, 1, 1, THIEF, 0, 2, 2, TOLD, 0, 3, 3, TURNER, 4, 4, 5,
            DANCER, 0, 15, 15);
        for (int part = 0; part < 4; part++) x.row(3, part, part + 1);
        room(x, "soft 1 c=0;hard 1 c=11");
        due("pass(0)", x.pass(0), 0);
        due("nothing wears", x.told(4), 0);
        due("pass(5)", x.pass(5), 5);
        // Of TOLD: 2 odd days, and 1 + 2 + 3 + 4 + 1.
        int[] want = {10, 15, 2, 13, 10, 30, 0, 0, 0, 0, 0, 0, 0, 0, 5, 5};
        for (int c = 0; c < 16; c++) due("wear of " + c, x.told(10 + c), want[c]);
        due("pass(1), an odd day", x.pass(1), 6);
        due("the thief's", x.told(12), 3);
        due("the told one's", x.told(13), 13 + 1 + 2);
        x.set(1, 9998);
        x.pass(1);
        due("the most", x.told(11), 9999);
        x.pass(60);
        due("the most", x.told(11), 9999);
        due("others go on", x.told(10), 134);
        for (int c = 0; c < 16; c++) x.set(c, 9999);
        x.pass(1);
        for (int c = 0; c < 16; c++) due("the most on " + c, x.told(10 + c), 9999);
        for (int n : new int[] {-1, 61, MIN, MAX}) due("pass(" + n + ")", x.pass(n), BAD);

        CarpetReasons y = with(THIEF, 0, 0, 0);
        for (int k = 0; k < 166; k++) y.pass(60);
        due("day", y.told(0), 9960);
        due("beyond 9999", y.pass(40), STATE);
        due("nothing went", y.told(0), 9960);
        due("to 9999", y.pass(39), 9999);
        due("no day more", y.pass(1), STATE);
        due("bad ahead of state", y.pass(61), BAD);
        due("no day", y.pass(0), 9999);
        due("the thief's", y.told(10), 4999);
        due("asked beyond the last day", y.on(1, 10), 5000);
        due("an even day beyond", y.on(2, 10), 5000);
        due("an odd day beyond", y.on(3, 10), 5001);
    }

    private static void on() {
        CarpetReasons x = with(GOER, 0, 0, 1, PACER, 0, 1, 1);
        x.set(0, 25);
        x.set(5, 9999);
        due("on(0, 10)", x.on(0, 10), 25);
        due("on(4, 10)", x.on(4, 10), 29);
        due("on(60, 11)", x.on(60, 11), 180);
        due("on(4, 0)", x.on(4, 0), cells(5));
        due("on(5, 0)", x.on(5, 0), cells(0, 5));
        due("on(10, 0)", x.on(10, 0), cells(0, 1, 5));
        due("on(10, 1)", x.on(10, 1), 25 + 9999 + 40);
        due("nothing changes", x.told(4), 25 + 9999);
        due("no day goes", x.told(0), 0);
        x.set(1, 9999);
        due("wear beyond 9999", x.on(2, 11), 10005);
        CarpetReasons y = with(TURNER, 4, 3, 3, TOLD, 0, 7, 7, TOLD, 0, 8, 8);
        for (int part = 0; part < 4; part++) {
            y.row(1, part, 1 + part);
            y.row(2, part, 9 - part);
        }
        due("what is a goer's own goes on", y.on(3, 13), 18);
        due("a row", y.on(3, 17), 1 + 6);
        due("another row", y.on(6, 18), 3 + 30 + 17);
        for (int what : new int[] {-1, 2, 9, 26, MIN, MAX}) due("on(61, " + what + ")", x.on(61, what), NONE);
        for (int n : new int[] {-1, 61, MIN, MAX}) due("on(" + n + ", 10)", x.on(n, 10), BAD);
    }

    private static void worn() {
        CarpetReasons x = with(GOER, 0, 0, 1, PACER, 0, 1, 1, THIEF, 0, 2, 2);
        due("worn(0)", x.worn(0), 30);
        due("worn(1)", x.worn(1), 10);
        due("worn(2)", x.worn(2), 60);
        due("worn(3)", x.worn(3), NOT_ANY);
        x.set(1, 28);
        due("worn(1)", x.worn(1), 1);
        x.set(1, 30);
        due("worn(1)", x.worn(1), 0);
        room(x, "bald 60");
        due("behind 60", x.worn(0), 60);
        due("not by then", x.worn(2), NOT_ANY);
        room(x, "bald 61");
        due("not by then", x.worn(0), NOT_ANY);
        for (int c : new int[] {-1, 16, MIN, MAX}) due("worn(" + c + ")", x.worn(c), NONE);
    }

    private static void meet() {
        CarpetReasons x = with(GOER, 0, 0, 3, THIEF, 0, 1, 13, GOER, 0, 12, 12);
        due("meet(0, 1)", x.meet(0, 1), cells(1));
        due("meet(1, 0)", x.meet(1, 0), cells(1));
        due("meet(0, 2)", x.meet(0, 2), 0);
        x.move(1, 0, 3);
        due("meet(0, 1)", x.meet(0, 1), cells(1, 2, 3));
        x.away(1, true);
        due("a way is one of one who is away", x.meet(0, 1), cells(1, 2, 3));
        x.stand(13, true);
        due("none without a way", x.meet(0, 1), 0);
        due("one is both", x.meet(2, 2), BAD);
        int[][] none = {{-1, 0}, {0, -1}, {3, 0}, {0, 3}, {3, 3}, {-1, -1}, {MIN, MAX}};
        for (int[] a : none) due("meet of no such", x.meet(a[0], a[1]), NONE);
    }

    // ---- prints, furniture, new carpet

    private static void who() {
        CarpetReasons x = with(GOER, 0, 0, 1, GOER, 0, 1, 2, PACER, 0, 0, 2, GOER, 0, 2, 0, THIEF, 0, 9, 9);
        x.set(10, 50);
        due("who(7, 1, 0)", x.who(7, 1, 0), 4);
        // Of 0 .. 3 any set with 2 or 3 in it (12), and 0 with 1; the thief does not tread on day 0.
        due("who(7, 1, 1)", x.who(7, 1, 1), 13 * 2);
        due("the thief by the second day", x.who(7, 2, 1), 13);
        due("with the thief", x.who(7 | 512, 20, 0), 4 | 16);
        due("the empty set", x.who(0, 1, 0), 0);
        due("and the thief's", x.who(0, 1, 1), 2);
        due("the first two cells", x.who(3, 3, 0), 1);
        x.away(2, true);
        due("without 2", x.who(7, 1, 0), 8);
        x.away(3, true);
        due("without 2, 3", x.who(7, 1, 0), 3);
        due("how many", x.who(7, 3, 1), 1);
        x.away(0, true);
        due("without 0", x.who(7, 1, 0), NOT_ANY);
        due("how many", x.who(7, 1, 1), 0);
        room(x, "hard 1 c=1");
        due("what does not yield has no print", x.who(4, 1, 0), 2);
        x.pass(1);
        due("on from the day that is", x.who(512, 1, 0), 16);
        due("all cells", x.who(65535, 1, 0), NOT_ANY);
        for (int what : new int[] {-1, 2, MIN, MAX}) due("who(-1, 0, " + what + ")", x.who(-1, 0, what), NONE);
        for (int print : new int[] {-1, 65536, MIN, MAX}) due("who(" + print + ", 1, 0)", x.who(print, 1, 0), BAD);
        for (int n : new int[] {-1, 0, 21, MIN, MAX}) due("who(0, " + n + ", 1)", x.who(0, n, 1), BAD);
    }

    private static void bestStand() {
        CarpetReasons x = with(GOER, 0, 0, 2);
        due("it shuts the corner off", x.best(0), cells(1, 4));
        x.stand(4, true);
        due("one is enough", x.best(0), cells(1));
        x.stand(4, false);
        x.goer(GOER, 0, 4, 4);
        x.away(1, true);
        due("none where anybody starts", x.best(0), NOT_ANY);
        x.move(1, 0, 15);
        due("none where anybody ends", x.best(0), NOT_ANY);
        x.move(1, 1, 15);
        due("the corner again", x.best(0), cells(1, 4));
        due("no furniture came", x.told(2), 0);
        due("no day went", x.told(0), 0);

        CarpetReasons y = with(GOER, 0, 0, 15);
        due("the least of several", y.best(0), cells(1, 4));
        CarpetReasons z = with(BLIND, 0, 0, 15, DANCER, 0, 3, 12, GOER, 0, 6, 6);
        due("the blind do not mind", z.best(0), NOT_ANY);
        CarpetReasons s = with(GOER, 0, 1, 9);
        room(s, "soft 20 c=5;hard 1 c=0|c=4|c=8");
        // By 0, 4, 8 only 1 and 9 wear: less than 1, 5, 9, more than nothing; nothing wants three cells.
        due("a way around", s.best(0), cells(5));
        CarpetReasons t = with(GOER, 0, 0, 3, PACER, 0, 4, 7);
        t.stand(0, true);
        due("both ways out of 4", t.best(0), cells(5, 8));
        CarpetReasons u = with(GOER, 0, 1, 4);
        due("a set with cell 0", u.best(0), NOT_ANY);
        for (int c : new int[] {2, 6, 8}) u.stand(c, true);
        due("the way around is barred, too", u.best(0), cells(0, 5));
        tenDays();
        CarpetReasons none = new CarpetReasons();
        due("without goers", none.best(0), NOT_ANY);
        for (int what : new int[] {-1, 2, MIN, MAX}) due("best(" + what + ")", none.best(what), NONE);
    }

    /** Furniture on 1 shuts the told one off and makes the other's way longer by 4 cells: 40 in 10 days. */
    private static void tenDays() {
        CarpetReasons x = with(TOLD, 0, 0, 2, GOER, 0, 5, 2, GOER, 0, 9, 10, GOER, 0, 11, 7, GOER, 0, 3, 3);
        for (int g = 2; g < 5; g++) x.away(g, true);
        for (int c : new int[] {4, 6, 8, 12, 13, 14, 15}) x.stand(c, true);
        // In 10 days (1, 5, 9 are its part) it wears 15 and 27, in 9 only 12 and 18, in 11 no more than in 10.
        x.row(0, 1, 9);
        due("behind 10 days it is less", x.best(0), cells(1));
        x.row(0, 1, 8);
        due("it is not less", x.best(0), NOT_ANY);
    }

    private static void bestLay() {
        CarpetReasons x = with(GOER, 0, 5, 6);
        due("none is bald by then", x.best(1), NOT_ANY);
        x.set(6, 11);
        x.set(5, 10);
        due("the first", x.best(1), 5);
        x.set(5, 9);
        due("only 6 is bald by then", x.best(1), 6);
        x.set(2, 500);
        due("the first, trodden or not", x.best(1), 2);
        CarpetReasons y = with(PACER, 0, 5, 6);
        due("bald again by then", y.best(1), NOT_ANY);
        y.set(5, 40);
        due("bald again by then", y.best(1), NOT_ANY);
        room(y, "bald 40");
        due("still", y.best(1), NOT_ANY);
        room(y, "bald 41");
        due("now it helps", y.best(1), 5);
        room(y, "bald 0");
        due("all are bald whatever comes", y.best(1), NOT_ANY);
        due("no wear went", y.told(15), 40);
        CarpetReasons z = new CarpetReasons();
        z.set(15, 30);
        due("the last cell", z.best(1), 15);
        z.set(0, 30);
        due("the first cell", z.best(1), 0);
    }

    // ---- seen, odds

    private static void see() {
        CarpetReasons x = new CarpetReasons();
        for (int c : new int[] {-2, 16, MIN, MAX}) due("see(" + c + ", -1, -1)", x.see(c, -1, -1), NONE);
        for (int more : new int[] {-1, 10000, MIN, MAX}) due("see(0, " + more + ", 0)", x.see(0, more, 0), BAD);
        for (int n : new int[] {-1, 21, MIN, MAX}) due("see(0, 0, " + n + ")", x.see(0, 0, n), BAD);
        due("none came", x.count(2), 0);
        due("first", x.see(0, 0, 0), 1);
        due("second", x.see(15, 9999, 20), 2);
        for (int k = 3; k < 6; k++) due("one more", x.see(1, 1, 1), k);
        due("a sixth", x.see(1, 1, 1), FULL);
        due("none ahead of full", x.see(16, 1, 1), NONE);
        due("bad ahead of full", x.see(1, 1, 21), BAD);
        due("see(-1, MIN, MAX)", x.see(-1, MIN, MAX), 0);
        due("none is there", x.count(2), 0);
        due("first again", x.see(1, 1, 1), 1);
    }

    private static void starts() {
        CarpetReasons x = with(GOER, 0, 0, 3);
        due("nothing seen", x.starts(0), 65535);
        x.see(1, 2, 2);
        due("all whose way goes over 1", x.starts(0), 0x3333);
        x.stand(9, true);
        due("with furniture on 9", x.starts(0), cells(0, 1, 4, 5, 8, 12));
        x.see(4, 2, 2);
        due("and over 4", x.starts(0), cells(4, 8, 12));
        x.see(4, 5, 5);
        due("and so on", x.starts(0), cells(4, 8, 12));
        x.see(7, 1, 1);
        due("not over 7", x.starts(0), 0);
        x.see(-1, 0, 0);
        x.see(0, 0, 20);
        x.away(0, true);
        due("away he is anywhere", x.starts(0), 65535);
        due("from stays", x.of(0, 2), 0);
        dueWay(x, 0, 0, 1, 2, 3);
        CarpetReasons y = with(TOLD, 0, 0, 3, GOER, 0, 6, 6);
        y.row(0, 0, 5);
        y.see(6, 6, 1);
        due("the row goes with from", y.starts(0), cells(6));
        due("the other's", y.starts(1), 0);
        y.set(6, 9999);
        due("more than the most", y.starts(0), cells(6));
        for (int g : new int[] {-1, 2, 6, MIN, MAX}) due("starts(" + g + ")", y.starts(g), NONE);
    }

    private static void can() {
        CarpetReasons x = with(TURNER, 1, 0, 1, GOER, 0, 15, 15);
        due("nothing seen: all", x.can(0, 0), 10);
        due("the least", x.can(0, 1), 0);
        x.see(0, 4, 2);
        due("what v does not change", x.can(0, 0), 10);
        x.see(1, 14, 2);
        due("only 5", x.can(0, 0), 1);
        due("the least", x.can(0, 1), 5);
        due("the other's", x.can(1, 0), 0);
        due("the least", x.can(1, 1), NOT_ANY);
        due("v stays", x.of(0, 1), 1);
        x.see(-1, 0, 0);
        room(x, "soft 1 v>3;hard 1 g=0");
        x.see(15, 2, 1);
        due("by what it yields", x.can(1, 0), 6);
        due("the least", x.can(1, 1), 4);
        due("yields stay", x.of(1, 65), 1);
        x.see(15, 40, 20);
        due("likewise", x.can(1, 0), 6);
        x.see(0, 1, 1);
        due("not all is so", x.can(1, 0), 0);
        for (int g : new int[] {-1, 2, MIN, MAX}) due("can(" + g + ", 0)", x.can(g, 0), NONE);
        for (int what : new int[] {-1, 2, MIN, MAX}) due("can(0, " + what + ")", x.can(0, what), NONE);
    }

    private static void sole() {
        CarpetReasons x = with(GOER, 0, 0, 1, GOER, 0, 1, 2, BLIND, 0, 2, 3, PACER, 0, 1, 1);
        due("nothing seen: all", x.sole(), 15);
        x.away(1, true);
        x.see(1, 1, 1);
        due("one who is away, too", x.sole(), 3);
        x.see(2, 0, 1);
        due("not over 2", x.sole(), 1);
        due("he stays away", x.of(1, 4), 1);
        due("the others do not", x.of(3, 4), 0);
        x.see(1, 3, 2);
        due("nobody", x.sole(), 0);
        due("without goers", new CarpetReasons().sole(), 0);
    }

    private static void odds() {
        CarpetReasons x = with(GOER, 0, 0, 0, PACER, 0, 0, 0);
        due("bald only by the pacer: above", x.odds(0, 15, 0), 1);
        due("below", x.odds(0, 15, 1), 2);
        due("by neither", x.odds(0, 14, 0), 0);
        due("below", x.odds(0, 14, 1), 1);
        due("by either", x.odds(0, 30, 0), 1);
        due("below", x.odds(0, 30, 1), 1);
        x.goer(THIEF, 0, 9, 9);
        due("of three", x.odds(0, 15, 0), 2);
        due("below", x.odds(0, 15, 1), 3);
        x.goer(TOLD, 0, 9, 9);
        due("of four", x.odds(0, 15, 0), 3);
        x.away(0, true);
        due("one is away already", x.odds(0, 15, 0), 3);
        due("below", x.odds(0, 15, 1), 4);
        x.away(1, true);
        due("both are", x.odds(0, 60, 0), 0);
        x.set(0, 30);
        due("bald already", x.odds(0, 0, 0), 1);
        due("below", x.odds(0, 0, 1), 1);
        for (int c : new int[] {-1, 16, MIN, MAX}) due("odds(" + c + ", 0, 0)", x.odds(c, 0, 0), NO);
        for (int n : new int[] {-1, 61, MIN, MAX}) due("odds(0, " + n + ", 0)", x.odds(0, n, 0), NO);
        for (int part : new int[] {-1, 2, MIN, MAX}) due("odds(0, 0, " + part + ")", x.odds(0, 0, part), NO);
        due("of one", with(GOER, 0, 3, 3).odds(3, 60, 0), 0);
        due("below", with(GOER, 0, 3, 3).odds(3, 60, 1), 1);
        due("without goers", new CarpetReasons().odds(0, 0, 0), NO);
        due("without goers", new CarpetReasons().odds(0, 0, 1), NO);
    }

    private static void mean() {
        CarpetReasons x = with(GOER, 0, 0, 2);
        due("nothing: above", x.mean(0, 0), 0);
        due("below", x.mean(0, 1), 1);
        due("3 by 16: above", x.mean(1, 0), 3);
        due("below", x.mean(1, 1), 16);
        due("12 by 16: above", x.mean(4, 0), 3);
        due("below", x.mean(4, 1), 4);
        due("48 by 16: above", x.mean(16, 0), 3);
        due("below", x.mean(16, 1), 1);
        due("180 by 16: above", x.mean(60, 0), 45);
        x.set(0, 9999);
        due("10002 by 16: above", x.mean(1, 0), 5001);
        due("below", x.mean(1, 1), 8);
        for (int n : new int[] {-1, 61, MIN, MAX}) due("mean(" + n + ", 0)", x.mean(n, 0), NO);
        for (int part : new int[] {-1, 2, MIN, MAX}) due("mean(0, " + part + ")", x.mean(0, part), NO);
    }

    // ---- plans, books

    private static void plan() {
        CarpetReasons x = with(GOER, 0, 0, 2);
        int[][] none = {{-2, 0}, {4, 0}, {MIN, 0}, {MAX, 0}, {1, -1}, {1, 1}, {1, MAX}, {2, -1}, {2, 16}, {3, -1}, {3, 16},
            {3, MIN}};
        for (int[] a : none) due("plan(" + a[0] + ", " + a[1] + ")", x.plan(a[0], a[1]), NONE);
        due("none came", x.count(3), 0);
        due("a day", x.plan(0, MIN), 1);
        due("a goer", x.plan(1, 0), 2);
        due("a cell", x.plan(2, 15), 3);
        due("furniture", x.plan(3, 15), 4);
        for (int k = 5; k <= 10; k++) due("a day", x.plan(0, MAX), k);
        due("an eleventh", x.plan(0, 0), FULL);
        due("none ahead of full", x.plan(2, 16), NONE);
        due("count(3)", x.count(3), 10);
        due("plan(-1, 99)", x.plan(-1, 99), 0);
        due("count(3)", x.count(3), 0);
        due("a first", x.plan(0, 0), 1);
    }

    private static void ends() {
        CarpetReasons x = with(GOER, 0, 0, 2, PACER, 0, 15, 15);
        x.set(5, 40);
        due("without a plan", x.ends(0), 40);
        due("bald", x.ends(1), 1);
        x.plan(0, 0);
        due("a day", x.ends(0), 45);
        x.plan(2, 5);
        due("5 is laid new", x.ends(0), 5);
        due("bald", x.ends(1), 0);
        x.plan(3, 1);
        x.plan(0, 0);
        due("a way around 1", x.ends(0), 5 + 5 + 2);
        x.plan(3, 1);
        x.plan(0, 0);
        due("the old way", x.ends(0), 12 + 3 + 2);
        x.plan(1, 1);
        x.plan(1, 1);
        x.plan(0, 0);
        due("1 is away", x.ends(0), 17 + 3);
        room(x, "bald 6");
        due("15 is bald", x.ends(1), 1);
        due("nothing changes", x.told(4), 40);
        due("no day went", x.told(0), 0);
        due("no furniture", x.told(2), 0);
        due("nobody is away", x.of(1, 4), 0);
        for (int what : new int[] {-1, 2, MIN, MAX}) due("ends(" + what + ")", x.ends(what), NONE);

        CarpetReasons y = with(THIEF, 0, 0, 0);
        y.set(0, 9999);
        y.stand(7, true);
        y.plan(0, 0);
        due("an even day", y.ends(0), 9999);
        y.plan(0, 0);
        due("an odd day, beyond 9999", y.ends(0), 10000);
        y.plan(3, 0);
        y.plan(0, 0);
        y.plan(0, 0);
        due("furniture on him", y.ends(0), 10000);
    }

    private static void book() {
        CarpetReasons x = new CarpetReasons();
        for (int c : new int[] {-2, 16, MIN, MAX}) due("book(" + c + ", -1)", x.book(c, -1), NONE);
        for (int wear : new int[] {-1, 10000, MIN, MAX}) due("book(0, " + wear + ")", x.book(0, wear), BAD);
        due("none came", x.count(4), 0);
        for (int k = 1; k <= 8; k++) due("a row", x.book(k, 9999), k);
        due("a ninth", x.book(0, 0), FULL);
        due("none ahead of full", x.book(16, 0), NONE);
        due("bad ahead of full", x.book(0, 10000), BAD);
        due("book(-1, MIN)", x.book(-1, MIN), 0);
        due("count(4)", x.count(4), 0);
        due("a first", x.book(15, 0), 1);
    }

    private static void looked() {
        CarpetReasons x = with(GOER, 0, 0, 0);
        due("no rows", x.looked(), NOT_ANY);
        x.book(3, 0);
        x.book(4, 7);
        x.book(0, 2);
        due("4 is otherwise", x.looked(), 1);
        x.set(3, 1);
        due("3 is otherwise, 4 as well", x.looked(), 0);
        x.set(3, 0);
        x.set(4, 7);
        due("0 is otherwise", x.looked(), 2);
        x.pass(2);
        due("none is", x.looked(), NOT_ANY);
        x.pass(1);
        due("0 is otherwise", x.looked(), 2);
        x.book(-1, 0);
        due("no rows", x.looked(), NOT_ANY);
    }

    // ---- judging, the image, acts, tapes

    private static void judge() {
        CarpetReasons x = new CarpetReasons();
        for (int t : new int[] {-1, 6, MIN, MAX}) due("judge(" + t + ", 0)", x.judge(t, 0), NONE);
        due("it holds nothing", x.judge(0, 0), 100);
        due("it holds nothing", x.judge(0, -1), 100);
        for (int sort : new int[] {0, 2, 3, 4}) {
            x.tape(0, sort, 20);
            due("sort " + sort, x.judge(0, 0), CAST);
            due("sort " + sort, x.judge(0, -1), CAST);
        }
        x.tape(0, 1, 20);
        due("all are so", x.judge(0, 0), NOT_ANY);
        due("all are so, just", x.judge(0, 4), NOT_ANY);
        due("15 were looked at", x.judge(0, 5), 115);
        due("one was", x.judge(0, 19), 101);
        due("none was", x.judge(0, 20), 100);
        due("none was", x.judge(0, 21), 100);
        for (int i : new int[] {-1, MIN, MAX}) due("judge(0, " + i + ")", x.judge(0, i), 100);
        x.set(3, 9999);
        due("3 is otherwise", x.judge(0, 0), 3);
        due("3 is otherwise", x.judge(0, 4), 3);
        due("the row ends ahead of it", x.judge(0, 17), 103);
        due("it does not", x.judge(0, 16), 3);
        x.item(0, 7, 9999);
        due("as told", x.judge(0, 4), NOT_ANY);
        due("7 is otherwise, 3 as well", x.judge(0, 0), 3);
        x.tape(1, 1, 0);
        due("a row of none", x.judge(1, 0), 100);
    }

    private static void imageAndUndo() {
        CarpetReasons x = with(TOLD, 3, 0, 2, GOER, 0, 15, 15);
        due("undo without one", x.undo(), STATE);
        room(x, "bald 7;soft 1 c=0");
        x.set(4, 8);
        x.stand(9, true);
        x.away(1, true);
        x.row(0, 1, 6);
        x.pass(1);
        x.see(0, 1, 1);
        x.plan(0, 0);
        x.book(4, 8);
        due("image()", x.image(), 2);
        due("the image stays beside what goes on", x.told(14), 8);

        for (int twice = 0; twice < 2; twice++) {
            x.goer(DANCER, 0, 1, 1);
            if (twice == 0) room(x, "bald 9");
            x.set(4, 0);
            x.stand(9, false);
            x.stand(1, true);
            x.away(1, false);
            x.away(0, true);
            x.row(0, 1, 0);
            x.move(0, 0, 4);
            x.move(0, 1, 5);
            x.pass(4);
            x.see(-1, 0, 0);
            x.see(5, 5, 5);
            x.see(5, 5, 5);
            x.plan(-1, 0);
            x.book(-1, 0);
            x.feed('b');
            x.tape(0, 1, 3);
            x.act(0, 0, 0);
            due("undo()", x.undo(), 2);
            due("count(0)", x.count(0), 2);
            due("rooms stay", x.count(1), 2);
            due("seen", x.count(2), 1);
            due("plan", x.count(3), 1);
            due("book", x.count(4), 1);
            due("the text goes on", x.count(5), twice + 1);
            due("the trace stays", x.count(6), 2);
            due("tapes stay", x.read(0, 2), 0);
            due("day", x.told(0), 1);
            due("the room that held", x.told(1), 7);
            due("its yields", x.of(0, 50), 2);
            due("furniture", x.told(2), cells(9));
            due("wear", x.told(14), 8);
            due("away", x.of(1, 4), 1);
            due("away", x.of(0, 4), 0);
            dueWay(x, 0, 0, 1, 2);
            due("row", x.of(0, 30), 7);
            due("looked", x.looked(), NOT_ANY);
            due("starts, by what was seen", x.starts(0), 0);
            due("a goer who comes yields by it", x.goer(GOER, 0, 0, 0), 2);
            due("so", x.of(2, 50), 2);
        }
        CarpetReasons n = with(GOER, 0, 0, 2, PACER, 0, 15, 15);
        n.see(1, 2, 2);
        n.plan(0, 5);
        n.plan(1, 1);
        n.plan(0, 5);
        n.book(7, 1);
        n.image();
        n.see(-1, 0, 0);
        n.see(2, 1, 9);
        n.plan(-1, 0);
        for (int k = 0; k < 3; k++) n.plan(3, 0);
        n.book(-1, 0);
        n.book(6, 0);
        n.undo();
        due("what was seen", n.starts(0), cells(0, 1, 4, 5, 8, 9, 12, 13));
        due("alone", n.sole(), 1);
        due("what was planned", n.ends(0), 5 + 3);
        due("what was booked", n.looked(), 0);
        n.set(7, 1);
        due("what was booked", n.looked(), NOT_ANY);
        due("an image of more", x.image(), 3);
        x.set(4, 9);
        due("undo()", x.undo(), 3);
        due("undo()", x.undo(), 3);
        due("wear", x.told(14), 8);
        due("the next room's number", room(new CarpetReasons(), "bald 1"), 0);
    }

    private static void act() {
        CarpetReasons x = with(GOER, 3, 0, 0, PACER, 4, 0, 0, BLIND, 1, 0, 0, THIEF, 2, 0, 0, TURNER, 8, 0, 0,
            DANCER, 0, 0, 0);
        due("a goer steps", x.act(0, 0, 5), 5);
        dueTrace(x, 10);
        due("a goer turns", x.act(0, 1, 5), 2);
        dueTrace(x, 11, 10);
        due("a goer tells", x.act(0, 2, 5), 4);
        dueTrace(x, 12, 11, 10);
        due("a pacer steps", x.act(1, 0, MAX), MIN);
        dueTrace(x, 10);
        due("a pacer turns", x.act(1, 1, 5), 4);
        dueTrace(x, 20, 11, 10);
        due("a pacer tells", x.act(1, 2, 5), 8);
        dueTrace(x, 12, 20, 11, 10);
        due("a blind one steps", x.act(2, 0, 3), 11);
        dueTrace(x, 30, 10);
        due("a blind one turns", x.act(2, 1, 3), 10);
        dueTrace(x, 11, 30, 10);
        due("a thief tells", x.act(3, 2, 4), 12);
        dueTrace(x, 40, 12, 11, 10, 11, 10);
        due("a turner steps", x.act(4, 0, 2), -6);
        dueTrace(x, 50, 10);
        due("a turner turns", x.act(4, 1, 2), -9);
        dueTrace(x, 51, 20, 11, 50, 10);
        due("a turner tells", x.act(4, 2, 2), -18);
        dueTrace(x, 12, 51, 20, 11, 50, 10);
        due("a dancer tells", x.act(5, 2, 10), 40);
        dueTrace(x, 60, 12, 11, 30, 10);
        due("it wraps", x.act(2, 0, MAX), MAX * 3 + 2);
        CarpetReasons y = with(GOER, 0, 0, 0, TOLD, 5, 0, 0);
        due("a told one steps", y.act(1, 0, 4), 0);
        dueTrace(y, 71, 10);
        due("a told one turns", y.act(1, 1, 4), -2);
        dueTrace(y, 70, 11, 71, 10, 10);
        due("a told one tells", y.act(1, 2, 4), 1);
        dueTrace(y, 40, 12, 70, 11, 71, 10, 10, 70, 11, 71, 10, 10);
        int[][] none = {{-1, 0}, {2, 0}, {MAX, 0}, {0, -1}, {0, 3}, {0, MIN}};
        for (int[] a : none) {
            y.act(1, 2, 4);
            due("act of no such", y.act(a[0], a[1], 7), 0);
            dueTrace(y);
        }
        y.act(1, 0, 4);
        due("an act changes nothing else", y.told(4), 0);
    }

    private static void trace() {
        CarpetReasons x = with(PACER, 4, 0, 0);
        due("none yet", x.trace(0), NONE);
        x.act(0, 1, 1);
        due("trace(0)", x.trace(0), 20);
        due("trace(2)", x.trace(2), 10);
        for (int i : new int[] {-1, 3, 20, MIN, MAX}) due("trace(" + i + ")", x.trace(i), NONE);
        x.act(0, 0, 1);
        due("only the latest", x.trace(0), 10);
        due("only the latest", x.trace(1), NONE);
    }

    private static void taken() {
        CarpetReasons x = with(PACER, 0, 0, 0, BLIND, 0, 0, 0, THIEF, 0, 0, 0, TURNER, 0, 0, 0, DANCER, 0, 0, 0,
            TOLD, 0, 0, 0);
        int[] above = {0, 0, 0, PACER, BLIND, THIEF};
        for (int g = 0; g < 6; g++) {
            for (int k = 0; k < 7; k++) {
                boolean is = k == GOER || k == g + 1 || k == above[g];
                due("taken(" + g + ", " + k + ")", x.taken(g, k), is ? g + 1 : CAST);
            }
        }
        CarpetReasons y = with(GOER, 0, 0, 0);
        due("taken(0, 0)", y.taken(0, 0), 0);
        for (int k = 1; k < 7; k++) due("taken(0, " + k + ")", y.taken(0, k), CAST);
        for (int k : new int[] {-1, 7, MIN, MAX}) due("taken(9, " + k + ")", y.taken(9, k), BAD);
        for (int g : new int[] {-1, 1, 6, MIN, MAX}) due("taken(" + g + ", 0)", y.taken(g, 0), NOTHING);
    }

    private static void count() {
        CarpetReasons x = with(GOER, 0, 0, 0, GOER, 0, 0, 0);
        room(x, "bald 1");
        room(x, "bald 1");
        room(x, "bald 1");
        for (int k = 0; k < 4; k++) x.see(0, 0, 0);
        for (int k = 0; k < 5; k++) x.plan(0, 0);
        for (int k = 0; k < 6; k++) x.book(0, 0);
        for (int k = 0; k < 7; k++) x.feed(0);
        x.act(0, 2, 0);
        int[] want = {2, 3, 4, 5, 6, 7, 3};
        for (int what = 0; what < 7; what++) due("count(" + what + ")", x.count(what), want[what]);
        for (int what : new int[] {-1, 7, MIN, MAX}) due("count(" + what + ")", x.count(what), BAD);
    }

    private static void tape() {
        CarpetReasons x = new CarpetReasons();
        for (int t : new int[] {-1, 6, MIN, MAX}) due("tape(" + t + ", 9, 99)", x.tape(t, 9, 99), NONE);
        for (int sort : new int[] {-2, 5, MIN, MAX}) due("tape(0, " + sort + ", 1)", x.tape(0, sort, 1), BAD);
        for (int n : new int[] {61, MAX}) due("tape(0, 0, " + n + ")", x.tape(0, 0, n), BAD);
        for (int n : new int[] {-1, MIN}) due("tape(0, 0, " + n + ")", x.tape(0, 0, n), SIZE);
        due("bad ahead of size", x.tape(0, 5, -1), BAD);
        due("nothing is there", x.item(0, 0, 1), NOTHING);
        due("60 longs", x.tape(5, 3, 60), 1);
        due("the last", x.item(5, 59, 7), 1);
        due("behind it", x.item(5, 60, 7), PLACE);
        x.item(5, 0, 8);
        due("60 longs again", x.tape(5, 3, 60), 1);
        due("all are 0", x.read(5, 59), 0);
        due("all are 0", x.read(5, 0), 0);
        due("none", x.tape(5, 4, 0), 1);
        due("no place", x.item(5, 0, 1), PLACE);
        for (int n : new int[] {0, 99, -1, MIN}) due("tape(5, -1, " + n + ")", x.tape(5, -1, n), 1);
        due("nothing is there", x.item(5, 0, 1), NOTHING);
        due("refused", x.tape(4, 2, 3), 1);
        x.item(4, 1, 9);
        x.tape(4, 2, 61);
        due("it stays", x.read(4, 1), 9);
    }

    private static void item() {
        CarpetReasons x = new CarpetReasons();
        for (int t : new int[] {-1, 6, MIN, MAX}) due("item(" + t + ", 0, 0)", x.item(t, 0, 0), NONE);
        due("nothing is there", x.item(0, -1, 0), NOTHING);
        long[][] want = {
            {127, -128, -1, 0, 0, 0x88 - 256},
            {127, 128, 65535 - 65536, 0, 0, 0x7788},
            {127, 128, 65535, 0, 1, 0x55667788},
            {127, 128, 65535, 1L << 32, (1L << 32) + 1, 0x1122334455667788L},
            {1, 1, 1, 1, 1, 1}};
        long[] put = {127, 128, 65535, 1L << 32, (1L << 32) + 1, 0x1122334455667788L};
        want[0][4] = 1;
        want[1][4] = 1;
        for (int sort = 0; sort < 5; sort++) {
            x.tape(sort, sort, 7);
            for (int k = 0; k < 6; k++) {
                due("item", x.item(sort, k, put[k]), 1);
                due("put " + put[k] + " to sort " + sort, x.read(sort, k), want[sort][k]);
            }
            due("the last is 0", x.read(sort, 6), 0);
        }
        x.item(4, 0, 0);
        due("a boolean that is not", x.read(4, 0), 0);
        x.item(4, 0, -1);
        due("a boolean that is", x.read(4, 0), 1);
        x.item(3, 0, NO);
        due("the least long", x.read(3, 0), NO);
        x.item(1, 0, -32769);
        due("the most short", x.read(1, 0), 32767);
        for (int i : new int[] {-1, 7, MIN, MAX}) due("item(0, " + i + ", 1)", x.item(0, i, 1), PLACE);
    }

    private static void read() {
        CarpetReasons x = new CarpetReasons();
        x.tape(2, 2, 3);
        x.item(2, 2, -9);
        due("read(2, 2)", x.read(2, 2), -9);
        due("read(2, 0)", x.read(2, 0), 0);
        for (int t : new int[] {-1, 6, 0, 5, MIN, MAX}) due("read(" + t + ", 0)", x.read(t, 0), NO);
        for (int i : new int[] {-1, 3, MIN, MAX}) due("read(2, " + i + ")", x.read(2, i), NO);
        x.tape(2, -1, 0);
        due("nothing there", x.read(2, 0), NO);
    }

    private static void shift() {
        CarpetReasons x = new CarpetReasons();
        x.tape(0, 2, 6);
        x.tape(1, 2, 4);
        x.tape(2, 3, 4);
        for (int k = 0; k < 6; k++) x.item(0, k, k + 1);
        due("to another", x.shift(0, 1, 1, 0, 3), 3);
        int[] want = {2, 3, 4, 0};
        for (int k = 0; k < 4; k++) due("item " + k, x.read(1, k), want[k]);
        due("forward within one", x.shift(0, 0, 0, 2, 4), 4);
        want = new int[] {1, 2, 1, 2, 3, 4};
        for (int k = 0; k < 6; k++) due("item " + k, x.read(0, k), want[k]);
        due("backward within one", x.shift(0, 2, 0, 1, 4), 4);
        want = new int[] {1, 1, 2, 3, 4, 4};
        for (int k = 0; k < 6; k++) due("item " + k, x.read(0, k), want[k]);
        due("none, at the ends", x.shift(0, 6, 1, 4, 0), 0);
        due("all", x.shift(1, 0, 0, 2, 4), 4);
        due("to itself", x.shift(0, 0, 0, 0, 6), 6);
        int[][] places = {{-1, 0, 1}, {0, -1, 1}, {0, 0, -1}, {7, 0, 0}, {0, 5, 0}, {6, 0, 1}, {0, 4, 1}, {0, 0, 5},
            {3, 0, 4}, {0, 2, 3}, {MAX, 0, MAX}, {0, MAX, MAX}, {0, 0, MAX}, {MIN, MIN, MIN}, {1, 0, MAX}};
        for (int[] a : places) due("shift(0, " + a[0] + ", 1, " + a[1] + ", " + a[2] + ")", x.shift(0, a[0], 1, a[1], a[2]), PLACE);
        due("the longer one's end matters, too", x.shift(1, 3, 0, 0, 2), PLACE);
        for (int t : new int[] {-1, 6, MIN, MAX}) {
            due("shift(" + t + ", ..)", x.shift(t, 0, 5, 0, -1), NONE);
            due("shift(5, .., " + t + ", ..)", x.shift(5, 0, t, 0, -1), NONE);
        }
        due("nothing in the first", x.shift(5, -1, 0, 0, 1), NOTHING);
        due("nothing in the other", x.shift(2, -1, 5, 0, 1), NOTHING);
        due("unlike sorts ahead of places", x.shift(0, -1, 2, 0, 1), CAST);
        due("nothing changed", x.read(0, 0), 1);
    }

    private static void exampleOfReadme() {
        CarpetReasons carpet = new CarpetReasons();
        due("goer(1, 0, 0, 3)", carpet.goer(1, 0, 0, 3), 0);
        due("pass(5)", carpet.pass(5), 5);
        due("told(10)", carpet.told(10), 10);
        due("worn(3)", carpet.worn(3), 10);
        due("room()", room(carpet, "soft 2 x=1;bald 20"), 0);
        due("of(0, 51)", carpet.of(0, 51), 3);
        due("worn(3)", carpet.worn(3), 5);
    }

    private static void constants() {
        due("NONE", CarpetReasons.NONE, NONE);
        due("BAD", CarpetReasons.BAD, BAD);
        due("STATE", CarpetReasons.STATE, STATE);
        due("FULL", CarpetReasons.FULL, FULL);
        due("NO", CarpetReasons.NO, NO);
    }
}
