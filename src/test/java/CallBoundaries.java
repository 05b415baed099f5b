/**
 * For each promise the boundary cases that its call names: the last number that is taken and the first that is
 * refused, on either side; none and all there is place for; of several refusals the first that the call's words name.
 */
public final class CallBoundaries extends Sentences {
    private static final int[] NO_CELLS = {-1, 16, -16, 32, Integer.MIN_VALUE, Integer.MAX_VALUE};
    private static final int[] NO_TAPES = {-1, 6, Integer.MIN_VALUE, Integer.MAX_VALUE};
    private static final int[] NEITHER_0_NOR_1 = {-1, 2, Integer.MIN_VALUE, Integer.MAX_VALUE};

    public static void main(String[] args) {
        newObject();
        goer();
        of();
        set();
        move();
        away();
        stand();
        row();
        feed();
        room();
        told();
        pass();
        on();
        worn();
        meet();
        who();
        best();
        see();
        starts();
        can();
        sole();
        odds();
        mean();
        plan();
        ends();
        book();
        looked();
        judge();
        imageAndUndo();
        act();
        trace();
        taken();
        count();
        tape();
        item();
        read();
        shift();
        constants();
        end();
    }

    /** The numbers just outside these two, and those farthest off. */
    private static int[] outside(int least, int most) {
        return new int[] {least - 1, most + 1, Integer.MIN_VALUE, Integer.MAX_VALUE};
    }

    /** Three goers are there: no such goer. */
    private static final int[] NO_GOERS_OF_3 = {-1, 3, 5, 6, 32, Integer.MIN_VALUE, Integer.MAX_VALUE};

    private static Run three() {
        return new Run("goer(0, 0, 0, 3) goer(6, 0, 4, 7) goer(4, 5, 8, 9)");
    }

    private static void newObject() {
        sentence("1: a new object: No GOERS", () ->
            new Run().due("count(0)", 0).due("of(0, 0) move(0, 0, 0) away(0, true) row(0, 0, 0) starts(0) can(0, 0) meet(0, 1)", NONE)
                .due("plan(1, 0)", NONE).due("taken(0, 0)", NOTHING).due("odds(0, 0, 0)", NO).due("sole()", 0).due("told(5)", 0));
        sentence("1: a new object: no ROOM", () -> new Run().due("count(1)", 0).due("told(1)", 30).due("goer(0, 0, 0, 0)", 0).due("of(0, 50)", 1));
        sentence("1: a new object: nothing is told, nothing has run, nothing is on the TAPES", () -> {
            Run x = new Run().dueForEach("count(#)", upTo(0, 6), 0).due("undo()", STATE).due("trace(0)", NONE).due("looked()", NOT_ANY);
            x.due("ends(0) ends(1)", 0).dueForEach("item(#, 0, 0)", upTo(0, 5), NOTHING).dueForEach("judge(#, 0)", upTo(0, 5), 100);
        });
        sentence("1: a new object: it has nothing of another", () -> {
            Run other = new Run("goer(0, 0, 0, 0) set(3, 9) stand(2, true) see(1, 1, 1) plan(0, 0) book(1, 1) image() feed(9)").room("bald 3");
            Run x = new Run().dueForEach("count(#)", upTo(0, 6), 0).dueWear().due("told(2)", 0).due("undo()", STATE);
            other.due("told(13)", 9).due("undo()", 1);
            x.due("told(4)", 0);
        });
    }

    private static void goer() {
        sentence("2: goer: kind: 0 .. 6", () -> {
            for (int k = 0; k < 7; k++) new Run().due("goer(" + k + ", 0, 0, 0)", 0).due("of(0, 0)", k);
        });
        sentence("2: goer: NONE: kind", () -> new Run().dueForEach("goer(#, 0, 0, 0)", outside(0, 6), NONE).due("count(0)", 0));
        sentence("2: goer: v: 0 .. 9", () -> {
            for (int v = 0; v < 10; v++) new Run().due("goer(0, " + v + ", 0, 0)", 0).due("of(0, 1)", v);
        });
        sentence("2: goer: BAD: v", () -> new Run().dueForEach("goer(0, #, 0, 0)", outside(0, 9), BAD).due("count(0)", 0));
        sentence("2: goer: from, to: 0 .. 15", () -> {
            for (int c = 0; c < 16; c++) {
                new Run().due("goer(0, 0, " + c + ", " + (15 - c) + ")", 0).due("of(0, 2)", c).due("of(0, 3)", 15 - c);
            }
        });
        sentence("2: goer: NONE: from", () -> new Run().dueForEach("goer(0, 0, #, 0)", NO_CELLS, NONE).due("count(0)", 0));
        sentence("2: goer: NONE: to", () -> new Run().dueForEach("goer(0, 0, 0, #)", NO_CELLS, NONE).due("count(0)", 0));
        sentence("2: goer: FULL: 6", () ->
            new Run().times(5, "goer(0, 0, 0, 0)").due("goer(6, 9, 15, 15)", 5).due("goer(0, 0, 0, 0)", FULL).due("count(0)", 6));
        sentence("2: goer: of several refusals the first: NONE ahead of BAD", () ->
            new Run().due("goer(-1, 10, 0, 0) goer(7, -1, 0, 0) goer(0, 10, 16, 0) goer(0, -1, 0, -1)", NONE));
        sentence("2: goer: of several refusals the first: NONE, BAD ahead of FULL", () ->
            new Run().times(6, "goer(0, 0, 0, 0)").due("goer(7, 0, 0, 0) goer(0, 0, 16, 0) goer(0, 0, 0, -1) goer(7, 10, 0, 0)", NONE)
                .due("goer(0, 10, 0, 0) goer(0, -1, 15, 15)", BAD));
    }

    private static void of() {
        sentence("3: of: what 0 .. 5", () -> {
            Run x = new Run("goer(4, 9, 12, 14)");
            int[] want = {4, 9, 12, 14, 0, 3};
            for (int what = 0; what < 6; what++) x.due("of(0, " + what + ")", want[what]);
        });
        sentence("3: of: 10 and k the k-th CELL of its WAY (-5: there are fewer)", () -> {
            Run x = new Run("goer(0, 0, 12, 14)").due("of(0, 10)", 12).due("of(0, 12)", 14).dueForEach("of(0, #)", upTo(13, 25), NOT_ANY);
            x.make("stand(12, true)").dueForEach("of(0, #)", upTo(10, 25), NOT_ANY).due("of(0, 5)", 0);
        });
        sentence("3: of: 30 and c, 50 and c: CELLS 0 .. 15", () -> {
            Run x = new Run("goer(1, 0, 0, 0) goer(1, 0, 15, 15)").room("soft 1 c=0;soft 2 c=15");
            x.due("of(0, 30) of(1, 45)", 2).due("of(0, 31) of(1, 44) of(0, 45) of(1, 30)", 0);
            x.due("of(0, 50)", 2).due("of(0, 65)", 3).due("of(0, 51) of(0, 64)", 1);
        });
        sentence("3: of: NONE: what", () -> {
            Run x = three().dueForEach("of(0, #)", new int[] {-1, Integer.MIN_VALUE, Integer.MAX_VALUE, 66, 67, 70, 80}, NONE);
            x.dueForEach("of(0, #)", upTo(6, 9), NONE).dueForEach("of(0, #)", upTo(26, 29), NONE).dueForEach("of(0, #)", upTo(46, 49), NONE);
        });
        sentence("3: of: NONE: goer", () -> {
            for (int what : new int[] {0, 5, 10, 30, 65, 99}) three().dueForEach("of(#, " + what + ")", NO_GOERS_OF_3, NONE);
        });
        sentence("3: of: the last GOER there is", () -> three().due("of(2, 0)", 4).make("goer(1, 0, 0, 0)").due("of(3, 0)", 1).due("of(4, 0)", NONE));
    }

    private static void set() {
        sentence("4: set: CELLS 0 .. 15", () -> {
            Run x = new Run().dueForEach("set(#, 7)", upTo(0, 15), 0).dueForEach("set(#, 8)", upTo(0, 15), 7);
            x.due("told(4)", 128);
        });
        sentence("4: set: NONE", () -> new Run().dueForEach("set(#, 7)", NO_CELLS, NONE).due("told(4)", 0));
        sentence("4: set: n (0 .. 9999)", () -> new Run().due("set(3, 9999)", 0).due("set(3, 0)", 9999).due("set(3, 1)", 0).due("told(13)", 1));
        sentence("4: set: BAD", () -> new Run("set(3, 4)").dueForEach("set(3, #)", outside(0, 9999), BAD).due("told(13)", 4));
        sentence("4: set: of several refusals the first: NONE", () -> new Run().due("set(-1, -1) set(16, 10000)", NONE));
    }

    private static void move() {
        sentence("5: move: what 0, 1; CELLS 0 .. 15", () -> {
            Run x = new Run("goer(0, 0, 0, 15)");
            for (int c = 1; c < 16; c++) x.due("move(0, 0, " + c + ")", c - 1).due("move(0, 1, " + (15 - c) + ")", 16 - c);
            x.due("of(0, 2)", 15).due("of(0, 3)", 0);
        });
        sentence("5: move: to the CELL where it was", () -> new Run("goer(0, 0, 4, 6)").due("move(0, 0, 4)", 4).due("move(0, 1, 6)", 6).dueWay(0, 4, 5, 6));
        sentence("5: move: NONE: goer", () -> three().dueForEach("move(#, 0, 5)", NO_GOERS_OF_3, NONE));
        sentence("5: move: NONE: what", () -> three().dueForEach("move(0, #, 5)", NEITHER_0_NOR_1, NONE).due("of(0, 2)", 0).due("of(0, 3)", 3));
        sentence("5: move: NONE: CELL", () -> three().dueForEach("move(0, 0, #)", NO_CELLS, NONE).dueForEach("move(0, 1, #)", NO_CELLS, NONE)
            .due("of(0, 2)", 0).due("of(0, 3)", 3));
        sentence("5: move: the last GOER there is, alone", () ->
            three().due("move(2, 1, 11)", 9).dueWay(2, 8, 9, 10, 11).dueWay(1, 4, 5, 6, 7).dueWay(0, 0, 1, 2, 3));
    }

    private static void away() {
        sentence("6: away: whether it was", () ->
            three().due("away(0, false)", 0).due("away(0, true)", 0).due("away(0, true)", 1).due("of(0, 4)", 1).due("away(0, false)", 1)
                .due("away(0, false)", 0).due("of(0, 4)", 0));
        sentence("6: away: NONE", () -> three().dueForEach("away(#, true)", NO_GOERS_OF_3, NONE).due("of(0, 4) of(1, 4) of(2, 4)", 0));
        sentence("6: away: one alone, all", () -> {
            Run x = three().due("away(2, true)", 0).due("of(0, 4) of(1, 4)", 0).due("of(2, 4)", 1);
            x.make("away(0, true) away(1, true)").due("told(5)", 0).make("away(2, false)").due("told(5)", cells(8, 9));
        });
        sentence("6: away: one who has come behind one who is AWAY is not", () -> three().make("away(2, true)").due("goer(0, 0, 1, 1)", 3).due("of(3, 4)", 0));
    }

    private static void stand() {
        sentence("7: stand: whether it had", () ->
            new Run().due("stand(9, false)", 0).due("stand(9, true)", 0).due("stand(9, true)", 1).due("told(2)", 512).due("stand(9, false)", 1)
                .due("stand(9, false)", 0).due("told(2)", 0));
        sentence("7: stand: CELLS 0 .. 15", () -> {
            for (int c = 0; c < 16; c++) new Run().due("stand(" + c + ", true)", 0).due("told(2)", 1 << c);
        });
        sentence("7: stand: NONE", () -> new Run().dueForEach("stand(#, true)", NO_CELLS, NONE).dueForEach("stand(#, false)", NO_CELLS, NONE).due("told(2)", 0));
        sentence("7: stand: WEAR under it stays", () -> new Run("set(9, 40) stand(9, true)").due("told(19)", 40).due("told(3)", 512));
    }

    private static void row() {
        sentence("8: row: n (0 .. 9)", () -> {
            Run x = three().due("row(1, 0, 9)", 0);
            for (int n = 8; n >= 0; n--) x.due("row(1, 0, " + n + ")", n + 1);
        });
        sentence("8: row: part 0 .. 3", () -> {
            Run x = three();
            for (int part = 0; part < 4; part++) x.due("row(1, " + part + ", " + (part + 1) + ")", 0);
            for (int part = 0; part < 4; part++) x.due("row(1, " + part + ", 0)", part + 1);
        });
        sentence("8: row: NONE: part", () -> three().dueForEach("row(1, #, 5)", outside(0, 3), NONE).due("row(1, 0, 0) row(1, 3, 0)", 0));
        sentence("8: row: NONE: goer", () -> three().dueForEach("row(#, 0, 5)", NO_GOERS_OF_3, NONE));
        sentence("8: row: BAD", () -> three().dueForEach("row(1, 0, #)", outside(0, 9), BAD).due("row(1, 0, 0)", 0));
        sentence("8: row: STATE: another KIND", () -> {
            for (int k = 0; k < 6; k++) new Run("goer(" + k + ", 0, 0, 0)").due("row(0, 0, 5) row(0, 3, 0)", STATE).dueTreads(0, treadsOnFirst(k));
        });
        sentence("8: row: of several refusals the first", () ->
            three().due("row(3, 4, 10) row(3, 0, 10) row(0, 4, 10) row(1, -1, -1) row(0, 4, 0)", NONE).due("row(0, 0, 10) row(0, 3, -1)", BAD));
        sentence("8: row: of one TOLD one alone", () -> new Run("goer(6, 0, 0, 0) goer(6, 0, 0, 0)").due("row(0, 3, 9)", 0).due("row(1, 3, 4)", 0).due("row(0, 3, 0)", 9));
    }

    /** Of one who stays on cell 0, on day 0. */
    private static int[] treadsOnFirst(int kind) {
        return new int[][] {{0, 1}, {0, 2}, {0, 1}, {}, {0, 2}, {0, 1, 1, 1, 4, 1}}[kind];
    }

    private static void feed() {
        sentence("9: feed: a sign (0 .. 127)", () -> new Run().due("feed(0)", 1).due("feed(127)", 2).due("feed(1)", 3).due("feed(126)", 4));
        sentence("9: feed: BAD", () -> new Run().dueForEach("feed(#)", outside(0, 127), BAD).due("feed(255) feed(256)", BAD).due("count(5)", 0));
        sentence("9: feed: FULL", () -> {
            Run x = new Run().times(98, "feed(98)").due("feed(98)", 99).due("feed(98)", 100).due("feed(98) feed(0) feed(127)", FULL);
            x.due("count(5)", 100);
        });
        sentence("9: feed: of several refusals the first: BAD", () -> new Run().times(100, "feed(98)").due("feed(128) feed(-1)", BAD).due("feed(0)", FULL));
        sentence("9: feed: FULL: THE TEXT of a later ROOM, too", () -> {
            Run x = new Run().room("bald 1").times(99, "feed(98)").due("feed(98)", 100).due("feed(98)", FULL).due("room()", -11);
            x.times(99, "feed(98)").due("feed(98)", 100).due("feed(98)", FULL);
        });
        sentence("9: feed: THE TEXT when there are 6 ROOMS", () -> {
            Run x = new Run();
            for (int k = 0; k < 6; k++) x.room("bald 1");
            x.times(99, "feed(98)").due("feed(98)", 100).due("feed(98)", FULL).due("room()", FULL).due("count(5)", 100);
        });
    }

    private static void room() {
        sentence("10: room: THE TEXT is empty then", () -> new Run().room("bald 7").due("count(5)", 0).due("feed(98)", 1));
        sentence("10: room: its number", () -> {
            Run x = new Run();
            for (int k = 0; k < 6; k++) x.dueRoom("bald 1", k);
        });
        sentence("10: room: FULL: there are 6 (THE TEXT stays)", () -> {
            Run x = new Run("goer(0, 0, 0, 0)");
            for (int k = 0; k < 6; k++) x.room("bald 1" + k + ";soft " + k + " c=0");
            x.dueRoom("bald 99", FULL).due("count(5)", 7).due("told(1)", 15).due("of(0, 50)", 6).due("room()", FULL).due("count(5)", 7).due("feed(59)", 8);
        });
        sentence("10: room: FULL: THE TEXT is empty, is none", () -> {
            Run x = new Run();
            for (int k = 0; k < 6; k++) x.room("bald 1");
            x.due("room()", FULL).dueRoom("x", FULL).due("count(5)", 1);
        });
        sentence("10: room: -10 less the FAULT: the least, the most", () -> new Run().due("room()", -10).dueRoom(repeat("bald 1;", 10), -79)
            .dueRoom("soft 1 c=0" + repeat("|c=1", 22) + "|c", -110));
        sentence("10: room: -10 less the FAULT: THE TEXT is empty then", () ->
            new Run().dueRoom("bald", -14).due("count(5)", 0).dueRoom("bald 3", 0).due("told(1)", 3));
        sentence("10: room: -10 less the FAULT (the one that held holds)", () -> {
            Run x = new Run("goer(0, 0, 0, 0)").room("bald 7;soft 2 c=0").dueRoom("bald 8;soft 5 c=0;", -28);
            x.due("told(1)", 7).due("of(0, 50)", 3).due("count(1)", 1).due("goer(0, 0, 0, 0)", 1).due("of(1, 50)", 3);
            x.make("see(0, 6, 1)").due("can(0, 0)", 10).dueRoom("bald 9", 1);
        });
        sentence("10: room: -10 less the FAULT: of a text behind a longer one with a FAULT", () ->
            new Run().dueRoom("soft 1 c=1&c=2x", -24).dueRoom("soft 1 c=", -19).dueRoom("soft 1 c=1&", -21).dueRoom("soft 1 c=1", 0));
    }

    private static void told() {
        sentence("11: told: what 0 .. 6, 10 and c", () -> {
            Run x = three().make("set(0, 31) set(15, 40) pass(2) stand(15, true)").due("told(0)", 2).due("told(1)", 30).due("told(2)", 32768);
            x.due("told(3)", cells(0, 15)).due("told(10)", 33).due("told(25)", 40).due("told(24)", 0);
            // 2 by the first on each of four, 1 by the told one on each of four, 4 and 4 + 10 by the turner.
            x.due("told(4)", 71 + 8 + 4 + 18).due("told(5)", cells(0, 1, 2, 3, 8, 9)).due("told(6)", 9);
        });
        sentence("11: told: NONE", () -> three().dueForEach("told(#)", outside(0, 25), NONE).dueForEach("told(#)", upTo(7, 9), NONE));
    }

    private static void pass() {
        sentence("12: pass: n DAYS (0 .. 60)", () -> new Run("goer(0, 0, 0, 0)").due("pass(0)", 0).dueWear().due("pass(1)", 1).dueWear(0, 1)
            .due("pass(60)", 61).dueWear(0, 61));
        sentence("12: pass: BAD", () -> new Run("goer(0, 0, 0, 0)").dueForEach("pass(#)", outside(0, 60), BAD).due("told(0)", 0).dueWear());
        sentence("12: pass: STATE: it would be above 9999", () -> {
            Run x = new Run("goer(3, 0, 0, 0)").times(166, "pass(60)").due("pass(40) pass(60)", STATE).due("told(0)", 9960).due("told(10)", 4980);
            x.due("pass(39)", 9999).due("told(10)", 4999).due("pass(1) pass(60)", STATE).due("pass(0)", 9999).due("told(10)", 4999);
        });
        sentence("12: pass: of several refusals the first: BAD", () -> new Run().times(166, "pass(60)").make("pass(39)").due("pass(61) pass(-1) pass(MAX)", BAD));
    }

    private static void on() {
        sentence("13: on: what 0, 1, 10 and c", () ->
            new Run("goer(0, 0, 0, 0) set(15, 30)").due("on(1, 0)", 32768).due("on(1, 1)", 31).due("on(1, 10)", 1).due("on(1, 25)", 30).due("on(1, 24)", 0));
        sentence("13: on: NONE", () -> new Run().dueForEach("on(0, #)", outside(0, 25), NONE).dueForEach("on(0, #)", upTo(2, 9), NONE));
        sentence("13: on: BAD: n", () -> {
            for (int what : new int[] {0, 1, 10, 25}) new Run().dueForEach("on(#, " + what + ")", outside(0, 60), BAD).due("on(60, " + what + ")", 0);
        });
        sentence("13: on: of several refusals the first: NONE", () -> new Run().due("on(-1, 2) on(61, -1) on(61, 26) on(MIN, 9)", NONE));
    }

    private static void worn() {
        sentence("14: worn: CELLS 0 .. 15", () -> {
            Run x = new Run();
            for (int c = 0; c < 16; c++) x.due("worn(" + c + ")", NOT_ANY).make("set(" + c + ", 30)").due("worn(" + c + ")", 0);
        });
        sentence("14: worn: NONE", () -> new Run().room("bald 0").dueForEach("worn(#)", NO_CELLS, NONE));
    }

    private static void meet() {
        sentence("15: meet: NONE: one, other", () -> three().dueForEach("meet(#, 0)", NO_GOERS_OF_3, NONE).dueForEach("meet(0, #)", NO_GOERS_OF_3, NONE));
        sentence("15: meet: BAD: one is both", () -> three().due("meet(0, 0) meet(2, 2)", BAD));
        sentence("15: meet: of several refusals the first: NONE", () -> three().due("meet(3, 3) meet(-1, -1) meet(MAX, MAX)", NONE));
        sentence("15: meet: the last GOERS", () -> new Run().times(6, "goer(0, 0, 14, 15)").due("meet(4, 5) meet(5, 0)", cells(14, 15)));
    }

    private static void who() {
        sentence("16: who: what 0, 1", () -> three().due("who(0, 1, 0)", 0).due("who(0, 1, 1)", 2));
        sentence("16: who: NONE: what", () -> three().dueForEach("who(0, 1, #)", NEITHER_0_NOR_1, NONE));
        sentence("16: who: PRINT (0 .. 65535)", () -> new Run().due("who(65535, 1, 0)", NOT_ANY).due("who(65535, 1, 1)", 0).due("who(0, 1, 0)", 0));
        sentence("16: who: BAD: print", () -> new Run().dueForEach("who(#, 1, 0)", outside(0, 65535), BAD).dueForEach("who(#, 1, 1)", outside(0, 65535), BAD));
        sentence("16: who: n DAYS (1 .. 20)", () -> new Run("goer(1, 0, 2, 2)").dueForEach("who(4, #, 0)", upTo(1, 20), 1));
        sentence("16: who: BAD: n", () -> new Run().dueForEach("who(0, #, 0)", outside(1, 20), BAD).dueForEach("who(0, #, 1)", outside(1, 20), BAD));
        sentence("16: who: of several refusals the first: NONE", () -> new Run().due("who(-1, 0, 2) who(65536, 1, -1) who(0, 21, 2)", NONE));
    }

    private static void best() {
        sentence("17: best: what 0, 1", () -> new Run("goer(0, 0, 0, 2) set(9, 30)").due("best(0)", cells(1, 4)).due("best(1)", 9));
        sentence("17: best: NONE", () -> new Run("goer(0, 0, 0, 2) set(9, 30)").dueForEach("best(#)", NEITHER_0_NOR_1, NONE));
    }

    private static void see() {
        sentence("18: see: CELLS 0 .. 15", () -> {
            for (int c = 0; c < 16; c++) new Run("goer(0, 0, " + c + ", " + c + ")").due("see(" + c + ", 1, 1)", 1).due("sole()", 1);
        });
        sentence("18: see: NONE", () -> new Run().dueForEach("see(#, 1, 1)", new int[] {-2, 16, Integer.MIN_VALUE, Integer.MAX_VALUE}, NONE).due("count(2)", 0));
        sentence("18: see: more (0 .. 9999)", () -> new Run().due("see(0, 0, 1)", 1).due("see(0, 9999, 1)", 2));
        sentence("18: see: BAD: more", () -> new Run().dueForEach("see(0, #, 1)", outside(0, 9999), BAD).due("count(2)", 0));
        sentence("18: see: n DAYS (0 .. 20)", () -> new Run().due("see(0, 1, 0)", 1).due("see(0, 1, 20)", 2));
        sentence("18: see: BAD: n", () -> new Run().dueForEach("see(0, 1, #)", outside(0, 20), BAD).due("count(2)", 0));
        sentence("18: see: FULL: 5", () -> {
            Run x = new Run("goer(0, 0, 7, 7)").times(4, "see(7, 1, 1)").due("see(7, 2, 2)", 5).due("see(7, 3, 2)", FULL).due("count(2)", 5).due("sole()", 1);
        });
        sentence("18: see: cell -1: none then, 0, whatever the others are", () -> {
            Run x = new Run("goer(0, 0, 7, 7)").due("see(-1, MIN, MAX)", 0).times(5, "see(7, 9, 1)").due("see(-1, -1, 21)", 0).due("count(2)", 0);
            x.due("sole()", 1).due("see(7, 1, 1)", 1).due("see(-1, 10000, -1)", 0).due("see(-1, 0, 0)", 0).due("starts(0)", 65535);
        });
        sentence("18: see: of several refusals the first", () ->
            new Run().times(5, "see(0, 0, 0)").due("see(16, -1, -1) see(-2, 0, 0) see(16, 0, 21)", NONE).due("see(0, -1, 0) see(0, 0, 21)", BAD)
                .due("see(0, 0, 0)", FULL));
    }

    private static void starts() {
        sentence("19: starts: NONE", () -> three().dueForEach("starts(#)", NO_GOERS_OF_3, NONE));
        sentence("19: starts: the first GOER, the last", () -> {
            Run x = three().make("see(9, 7, 1)").due("starts(0)", 65535 - cells(9, 13)).due("starts(1) starts(2)", 65535);
            x.make("see(8, 2, 1)").due("starts(2)", cells(8, 12));
        });
    }

    private static void can() {
        sentence("20: can: what 0, 1", () -> three().make("see(9, 6, 1)").due("can(2, 0)", 1).due("can(2, 1)", 4));
        sentence("20: can: NONE: goer", () -> three().dueForEach("can(#, 0)", NO_GOERS_OF_3, NONE).dueForEach("can(#, 1)", NO_GOERS_OF_3, NONE));
        sentence("20: can: NONE: what", () -> three().dueForEach("can(0, #)", NEITHER_0_NOR_1, NONE));
    }

    private static void sole() {
        sentence("21: sole: no GOERS, six", () -> {
            new Run().due("sole()", 0);
            new Run().times(5, "goer(0, 0, 3, 3)").make("goer(0, 0, 4, 4)").due("sole()", 63).make("see(4, 1, 1)").due("sole()", 32);
        });
    }

    private static void odds() {
        sentence("22: odds: part 0 above, 1 below the line", () -> three().make("set(0, 29)").due("odds(0, 1, 0)", 2).due("odds(0, 1, 1)", 3));
        sentence("22: odds: NO: cell", () -> three().dueForEach("odds(#, 1, 0)", NO_CELLS, NO).due("odds(15, 1, 0)", 0).due("odds(0, 1, 0)", 0));
        sentence("22: odds: NO: n", () -> three().dueForEach("odds(0, #, 0)", outside(0, 60), NO).due("odds(0, 0, 0)", 0).due("odds(0, 60, 0)", 2));
        sentence("22: odds: NO: part", () -> three().dueForEach("odds(0, 1, #)", NEITHER_0_NOR_1, NO));
        sentence("22: odds: NO: no GOERS", () -> new Run().due("odds(0, 0, 0) odds(0, 0, 1) odds(16, 61, 2)", NO));
    }

    private static void mean() {
        sentence("23: mean: part 0 above, 1 below the line", () -> new Run("set(0, 20)").due("mean(0, 0)", 5).due("mean(0, 1)", 4));
        sentence("23: mean: NO: n", () -> new Run().dueForEach("mean(#, 0)", outside(0, 60), NO).dueForEach("mean(#, 1)", outside(0, 60), NO).due("mean(60, 1)", 1));
        sentence("23: mean: NO: part", () -> new Run().dueForEach("mean(0, #)", NEITHER_0_NOR_1, NO));
    }

    private static void plan() {
        sentence("24: plan: what (0 .. 3)", () -> three().due("plan(0, 0)", 1).due("plan(1, 0)", 2).due("plan(2, 0)", 3).due("plan(3, 0)", 4));
        sentence("24: plan: NONE: what", () -> three().dueForEach("plan(#, 0)", new int[] {-2, 4, Integer.MIN_VALUE, Integer.MAX_VALUE}, NONE).due("count(3)", 0));
        sentence("24: plan: NONE: GOER (by 1)", () -> three().dueForEach("plan(1, #)", NO_GOERS_OF_3, NONE).due("plan(1, 2)", 1));
        sentence("24: plan: NONE: CELL (by 2, 3)", () ->
            three().dueForEach("plan(2, #)", NO_CELLS, NONE).dueForEach("plan(3, #)", NO_CELLS, NONE).due("plan(2, 15)", 1).due("plan(3, 15)", 2));
        sentence("24: plan: by 0 n does not matter", () -> new Run().due("plan(0, MIN)", 1).due("plan(0, -1)", 2).due("plan(0, 16)", 3).due("plan(0, MAX)", 4));
        sentence("24: plan: FULL: 10", () -> new Run("goer(0, 0, 0, 0)").times(9, "plan(0, 0)").due("plan(0, 0)", 10).due("plan(0, 0) plan(2, 0)", FULL)
            .due("count(3)", 10).due("ends(0)", 10));
        sentence("24: plan: what -1: it is empty then, 0, whatever the other is", () -> {
            Run x = new Run("set(0, 9)").due("plan(-1, MIN)", 0).make("plan(2, 0)").due("ends(0)", 0).due("plan(-1, 99)", 0).due("count(3)", 0);
            x.due("ends(0)", 9).times(10, "plan(2, 0)").due("plan(-1, MAX)", 0).due("plan(0, 0)", 1).due("ends(0)", 9);
        });
        sentence("24: plan: of several refusals the first: NONE", () ->
            three().times(10, "plan(0, 0)").due("plan(4, 0) plan(-2, 0) plan(1, 3) plan(2, 16) plan(3, -1)", NONE).due("plan(0, -1)", FULL));
    }

    private static void ends() {
        sentence("25: ends: what 0, 1", () -> new Run("set(0, 40) set(3, 1)").due("ends(0)", 41).due("ends(1)", 1));
        sentence("25: ends: NONE", () -> new Run().dueForEach("ends(#)", NEITHER_0_NOR_1, NONE));
        sentence("25: ends: how many are BALD: none, all", () -> new Run().due("ends(1)", 0).room("bald 0").due("ends(1)", 16));
    }

    private static void book() {
        sentence("26: book: CELLS 0 .. 15", () -> {
            for (int c = 0; c < 16; c++) new Run("set(" + c + ", 3)").due("book(" + c + ", 3)", 1).due("looked()", NOT_ANY);
        });
        sentence("26: book: NONE", () -> new Run().dueForEach("book(#, 0)", new int[] {-2, 16, Integer.MIN_VALUE, Integer.MAX_VALUE}, NONE).due("count(4)", 0));
        sentence("26: book: WEAR (0 .. 9999)", () -> new Run("set(3, 9999)").due("book(3, 9999)", 1).due("book(4, 0)", 2).due("looked()", NOT_ANY));
        sentence("26: book: BAD: wear", () -> new Run().dueForEach("book(0, #)", outside(0, 9999), BAD).due("count(4)", 0));
        sentence("26: book: FULL: 8", () -> new Run().times(7, "book(0, 0)").due("book(0, 0)", 8).due("book(1, 1)", FULL).due("count(4)", 8).due("looked()", NOT_ANY));
        sentence("26: book: cell -1: it is empty then, 0, whatever the other is", () -> {
            Run x = new Run().due("book(-1, MIN)", 0).times(8, "book(0, 1)").due("looked()", 0).due("book(-1, 10000)", 0).due("count(4)", 0);
            x.due("looked()", NOT_ANY).due("book(0, 0)", 1).due("book(-1, -1)", 0).due("book(-1, 0)", 0);
        });
        sentence("26: book: of several refusals the first", () ->
            new Run().times(8, "book(0, 0)").due("book(16, -1) book(-2, 10000) book(16, 0)", NONE).due("book(0, -1) book(15, 10000)", BAD).due("book(0, 0)", FULL));
    }

    private static void looked() {
        sentence("27: looked: -5", () -> new Run().due("looked()", NOT_ANY).make("book(0, 0)").due("looked()", NOT_ANY));
        sentence("27: looked: the number of the row: 0, 7", () -> new Run("book(0, 1)").times(7, "book(3, 5)").due("looked()", 0)
            .make("set(0, 1)").due("looked()", 1).make("book(-1, 0)").times(7, "book(0, 1)").make("book(0, 2)").due("looked()", 7));
    }

    private static void judge() {
        sentence("28: judge: NONE: tape", () -> new Run().dueForEach("judge(#, 0)", NO_TAPES, NONE).due("judge(-1, -1) judge(6, MAX)", NONE));
        sentence("28: judge: TAPES 0 .. 5", () -> {
            for (int t = 0; t < 6; t++) new Run("tape(" + t + ", 1, 16)").due("judge(" + t + ", 0)", NOT_ANY).due("judge(" + t + ", 1)", 115);
        });
        sentence("28: judge: CAST: it is no row of shorts", () -> {
            for (int sort : new int[] {0, 2, 3, 4}) new Run("tape(2, " + sort + ", 20)").due("judge(2, 0) judge(2, 19) judge(2, 20)", CAST);
        });
        sentence("28: judge: CAST: a row of none, a place below 0", () -> {
            for (int sort : new int[] {0, 2, 3, 4}) new Run("tape(2, " + sort + ", 0)").due("judge(2, 0) judge(2, -1) judge(2, MIN) judge(2, MAX)", CAST);
        });
    }

    private static void imageAndUndo() {
        sentence("29: image: how many GOERS there are: none, 6", () -> new Run().due("image()", 0).times(6, "goer(0, 0, 0, 0)").due("image()", 6));
        sentence("30: undo: how many GOERS: none, 6", () ->
            new Run("image()").times(6, "goer(0, 0, 0, 0)").due("undo()", 0).times(6, "goer(0, 0, 0, 0)").make("image()").due("undo()", 6).due("count(0)", 6));
        sentence("30: undo: STATE: there is none", () -> new Run("goer(0, 0, 0, 0)").due("undo()", STATE).due("count(0)", 1).make("image()").due("undo()", 1));
        sentence("30: undo: behind undo() the IMAGE is there", () -> new Run("image() undo()").due("undo()", 0).make("goer(0, 0, 0, 0)").due("undo()", 0));
    }

    private static void act() {
        sentence("31: act: an ACT (0 steps, 1 turns, 2 tells)", () ->
            new Run("goer(0, 3, 0, 0)").due("act(0, 0, 10)", 10).due("act(0, 1, 10)", 7).due("act(0, 2, 10)", 14));
        sentence("31: act: 0, and no TRACE then: no such GOER", () -> {
            for (int g : NO_GOERS_OF_3) three().make("act(1, 2, 1)").due("act(" + g + ", 0, 7)", 0).due("count(6)", 0).due("trace(0)", NONE);
        });
        sentence("31: act: 0, and no TRACE then: no such act", () -> {
            for (int a : outside(0, 2)) three().make("act(1, 2, 1)").due("act(0, " + a + ", 7)", 0).due("count(6)", 0).due("trace(0)", NONE);
        });
        sentence("31: act: i its number: 0, 5", () -> new Run().times(6, "goer(0, 0, 0, 0)").due("act(0, 0, 1)", 1).due("act(5, 0, 1)", 6));
        sentence("31: act: of one who is AWAY", () -> new Run("goer(0, 0, 0, 0) away(0, true)").due("act(0, 0, 4)", 4).due("count(6)", 1));
    }

    private static void trace() {
        sentence("32: trace: the first body, the last", () -> new Run("goer(1, 0, 0, 0) act(0, 2, 1)").due("trace(0)", 12).due("trace(3)", 10));
        sentence("32: trace: NONE", () -> new Run("goer(1, 0, 0, 0) act(0, 2, 1)").dueForEach("trace(#)", outside(0, 3), NONE).due("trace(19) trace(20)", NONE));
        sentence("32: trace: NONE: there is none", () -> new Run().due("trace(0) trace(-1)", NONE));
    }

    private static void taken() {
        sentence("33: taken: KIND k (0 .. 6)", () -> {
            boolean[][] isOne = {{true}, {true, true}, {true, false, true}, {true, false, false, true}, {true, true, false, false, true},
                {true, false, true, false, false, true}, {true, false, false, true, false, false, true}};
            for (int kind = 0; kind < 7; kind++) {
                Run x = new Run("goer(" + kind + ", 0, 0, 0)");
                for (int k = 0; k < 7; k++) x.due("taken(0, " + k + ")", k < isOne[kind].length && isOne[kind][k] ? kind : CAST);
            }
        });
        sentence("33: taken: BAD: k", () -> three().dueForEach("taken(0, #)", outside(0, 6), BAD));
        sentence("33: taken: NOTHING: no such GOER", () -> three().dueForEach("taken(#, 0)", NO_GOERS_OF_3, NOTHING).dueForEach("taken(#, 6)", NO_GOERS_OF_3, NOTHING));
        sentence("33: taken: of several refusals the first: BAD", () -> three().due("taken(3, 7) taken(-1, -1)", BAD));
    }

    private static void count() {
        sentence("34: count: what 0 .. 6: all there is place for", () -> {
            Run x = new Run().times(6, "goer(6, 0, 0, 0)").times(5, "see(0, 0, 0)").times(10, "plan(0, 0)").times(8, "book(0, 0)");
            for (int k = 0; k < 6; k++) x.room("bald 1");
            x.times(100, "feed(0)").make("act(0, 2, 0)");
            int[] want = {6, 6, 5, 10, 8, 100, 12};
            for (int what = 0; what < 7; what++) x.due("count(" + what + ")", want[what]);
        });
        sentence("34: count: BAD", () -> new Run().dueForEach("count(#)", outside(0, 6), BAD));
    }

    private static void tape() {
        sentence("35: tape: TAPES 0 .. 5", () -> new Run().dueForEach("tape(#, 2, 4)", upTo(0, 5), 1).dueForEach("read(#, 3)", upTo(0, 5), 0));
        sentence("35: tape: NONE: tape", () -> new Run().dueForEach("tape(#, 2, 4)", NO_TAPES, NONE));
        sentence("35: tape: sort 0 .. 4", () -> {
            for (int sort = 0; sort < 5; sort++) {
                new Run().due("tape(0, " + sort + ", 1)", 1).due("item(0, 0, 1)", 1).due("read(0, 0)", 1).due("judge(0, 0)", sort == 1 ? 0 : CAST);
            }
        });
        sentence("35: tape: BAD: sort", () -> new Run().dueForEach("tape(0, #, 4)", outside(-1, 4), BAD).due("item(0, 0, 1)", NOTHING));
        sentence("35: tape: n (0 .. 60)", () -> {
            for (int sort = 0; sort < 5; sort++) {
                Run x = new Run().due("tape(0, " + sort + ", 60)", 1).due("read(0, 59)", 0).due("read(0, 60)", NO);
                x.due("tape(0, " + sort + ", 0)", 1).due("read(0, 0)", NO).due("item(0, 0, 1)", PLACE);
                x.due("tape(0, " + sort + ", 1)", 1).due("read(0, 0)", 0).due("read(0, 1)", NO);
            }
        });
        sentence("35: tape: BAD: n above 60", () -> new Run("tape(0, 2, 3) item(0, 2, 8)").due("tape(0, 2, 61) tape(0, 3, MAX)", BAD).due("read(0, 2)", 8));
        sentence("35: tape: SIZE", () -> new Run("tape(0, 2, 3) item(0, 2, 8)").due("tape(0, 2, -1) tape(0, 3, MIN)", SIZE).due("read(0, 2)", 8));
        sentence("35: tape: of several refusals the first", () ->
            new Run().due("tape(6, 5, 61) tape(-1, 0, -1) tape(6, -1, 0)", NONE).due("tape(0, 5, -1) tape(0, -2, MIN) tape(0, 5, 61)", BAD));
        sentence("35: tape: holds nothing (sort -1: n does not matter)", () -> {
            for (String n : new String[] {"0", "-1", "61", "MIN", "MAX"}) {
                new Run("tape(0, 2, 3)").due("tape(0, -1, " + n + ")", 1).due("item(0, 0, 1)", NOTHING).due("read(0, 0)", NO).due("tape(1, -1, " + n + ")", 1);
            }
        });
        sentence("35: tape: all 0", () -> {
            Run x = new Run("tape(3, 3, 60) item(3, 0, -1) item(3, 59, MIN)").due("tape(3, 3, 60)", 1).due("read(3, 0) read(3, 59)", 0);
            x.make("item(3, 1, 5) tape(3, -1, 0) tape(3, 0, 2)").due("read(3, 1)", 0);
        });
        sentence("35: tape: the others stay", () ->
            new Run("tape(0, 3, 60) tape(1, 3, 60) tape(2, 3, 60) item(0, 59, 7) item(2, 0, 8) tape(1, 3, 60)").due("read(0, 59)", 7).due("read(2, 0)", 8));
    }

    private static void item() {
        sentence("36: item: NONE", () -> new Run().dueForEach("item(#, 0, 1)", NO_TAPES, NONE));
        sentence("36: item: NOTHING", () -> new Run("tape(0, 2, 2) tape(0, -1, 2)").due("item(0, 0, 1) item(5, 0, 1)", NOTHING));
        sentence("36: item: PLACE", () -> new Run("tape(0, 2, 2)").dueForEach("item(0, #, 1)", outside(0, 1), PLACE).due("item(0, 0, 1) item(0, 1, 1)", 1));
        sentence("36: item: of several refusals the first", () -> new Run("tape(0, 2, 2)").due("item(6, 2, 1) item(-1, -1, 1)", NONE).due("item(5, -1, 1)", NOTHING));
        sentence("36: item: its lowest bits: bytes", () -> dueItems(0, 127, 127, 128, -128, -128, -128, -129, 127, 255, -1, 256, 0, 4294967296L, 0));
        sentence("36: item: its lowest bits: shorts", () ->
            dueItems(1, 32767, 32767, 32768, -32768, -32768, -32768, -32769, 32767, 65535, -1, 65536, 0, 4294967296L, 0));
        sentence("36: item: its lowest bits: ints", () -> dueItems(2, Integer.MAX_VALUE, Integer.MAX_VALUE, 2147483648L, Integer.MIN_VALUE,
            Integer.MIN_VALUE, Integer.MIN_VALUE, -2147483649L, Integer.MAX_VALUE, 4294967295L, -1, 4294967296L, 0));
        sentence("36: item: its lowest bits: longs", () -> dueItems(3, Long.MAX_VALUE, Long.MAX_VALUE, Long.MIN_VALUE, Long.MIN_VALUE, -1, -1, 4294967296L, 4294967296L));
        sentence("36: item: booleans: whether v is not 0", () ->
            dueItems(4, 0, 0, 1, 1, -1, 1, 2, 1, 256, 1, 4294967296L, 1, Long.MIN_VALUE, 1, Long.MAX_VALUE, 1));
    }

    /** Each number that is put, and what is due to be read then. */
    private static void dueItems(int sort, long... putAndRead) {
        Run x = new Run("tape(0, " + sort + ", 1)");
        for (int k = 0; k < putAndRead.length; k += 2) x.due("item(0, 0, " + putAndRead[k] + ")", 1).due("read(0, 0)", putAndRead[k + 1]);
    }

    private static void read() {
        sentence("37: read: NO: no such TAPE", () -> new Run("tape(0, 2, 2) tape(5, 2, 2)").dueForEach("read(#, 0)", NO_TAPES, NO));
        sentence("37: read: NO: nothing there", () -> new Run("tape(0, 2, 2) tape(0, -1, 2)").due("read(0, 0) read(1, 0) read(5, 0)", NO));
        sentence("37: read: NO: no such place", () -> new Run("tape(0, 2, 2) tape(1, 2, 2)").dueForEach("read(0, #)", outside(0, 1), NO).due("read(0, 59) read(0, 60)", NO)
            .due("read(0, 0) read(0, 1)", 0));
        sentence("37: read: the last item of the last TAPE", () -> new Run("tape(5, 3, 60) item(5, 59, MAX)").due("read(5, 59)", Long.MAX_VALUE).due("read(5, 60)", NO));
    }

    private static void shift() {
        String made = "tape(0, 2, 4) tape(1, 2, 3) item(0, 0, 1) item(0, 1, 2) item(0, 2, 3) item(0, 3, 4) item(1, 0, 7) item(1, 1, 8) item(1, 2, 9)";
        sentence("38: shift: NONE: tapes", () ->
            new Run(made).dueForEach("shift(#, 0, 0, 0, 1)", NO_TAPES, NONE).dueForEach("shift(0, 0, #, 0, 1)", NO_TAPES, NONE));
        sentence("38: shift: NOTHING", () -> new Run(made).due("shift(0, 0, 2, 0, 1) shift(2, 0, 0, 0, 1) shift(5, 0, 5, 0, 0)", NOTHING));
        sentence("38: shift: CAST: of unlike sorts", () -> {
            for (int one = 0; one < 5; one++) {
                for (int other = 0; other < 5; other++) {
                    new Run("tape(0, " + one + ", 2) tape(1, " + other + ", 2)").due("shift(0, 0, 1, 0, 1)", one == other ? 1 : CAST)
                        .due("shift(0, 2, 1, 2, 0)", one == other ? 0 : CAST);
                }
            }
        });
        sentence("38: shift: PLACE: n, i or j is below 0", () ->
            new Run(made).due("shift(0, -1, 1, 0, 1) shift(0, 0, 1, -1, 1) shift(0, 0, 1, 0, -1) shift(0, MIN, 1, 0, 1) shift(0, 0, 1, MIN, 1)", PLACE)
                .due("shift(0, 0, 1, 0, MIN) shift(0, -1, 1, 0, 0) shift(0, 0, 1, -1, 0) shift(0, 1, 1, 1, -1)", PLACE).due("read(1, 0)", 7));
        sentence("38: shift: PLACE: beyond the one's end", () ->
            new Run(made).due("shift(0, 4, 1, 0, 1) shift(0, 3, 1, 0, 2) shift(0, 2, 1, 0, 3) shift(0, 5, 1, 0, 0) shift(0, MAX, 1, 0, 1)", PLACE)
                .due("shift(0, MAX, 1, 0, MAX) shift(0, 1, 1, 0, MAX)", PLACE).due("read(1, 0)", 7).due("shift(0, 1, 1, 0, 3)", 3).due("read(1, 2)", 4));
        sentence("38: shift: PLACE: beyond the other's end", () ->
            new Run(made).due("shift(0, 0, 1, 3, 1) shift(0, 0, 1, 2, 2) shift(0, 0, 1, 0, 4) shift(0, 0, 1, 4, 0) shift(0, 0, 1, MAX, 1)", PLACE)
                .due("shift(0, 0, 1, MAX, MAX)", PLACE).due("read(1, 0)", 7).due("shift(0, 0, 1, 0, 3)", 3).due("read(1, 2)", 3));
        sentence("38: shift: of several refusals the first", () ->
            new Run(made).make("tape(3, 1, 2)").due("shift(6, -1, 2, -1, -1) shift(2, -1, 6, -1, -1)", NONE).due("shift(2, -1, 3, -1, -1) shift(3, 9, 2, 0, 0)", NOTHING)
                .due("shift(0, -1, 3, 0, 0) shift(3, 0, 0, 9, 9)", CAST));
        sentence("38: shift: none", () -> new Run(made).due("shift(0, 0, 1, 0, 0) shift(0, 4, 1, 3, 0) shift(0, 0, 1, 3, 0)", 0).due("read(1, 2)", 9).due("read(1, 0)", 7));
        sentence("38: shift: all, of the longest", () -> new Run("tape(4, 3, 60) tape(5, 3, 60) item(4, 0, 5) item(4, 59, 6)").due("shift(4, 0, 5, 0, 60)", 60)
            .due("read(5, 0)", 5).due("read(5, 59)", 6).due("shift(4, 0, 5, 0, 61)", PLACE));
        sentence("38: shift: the same, as they all were before: forward, backward, onto itself", () -> {
            Run x = new Run(made).due("shift(0, 0, 0, 1, 3)", 3).due("read(0, 0) read(0, 1)", 1).due("read(0, 2)", 2).due("read(0, 3)", 3);
            x.due("shift(0, 1, 0, 0, 3)", 3).due("read(0, 0)", 1).due("read(0, 1)", 2).due("read(0, 2) read(0, 3)", 3);
            x.due("shift(0, 0, 0, 0, 4)", 4).due("read(0, 1)", 2).due("read(0, 2)", 3);
        });
        sentence("38: shift: rows of none", () -> new Run("tape(0, 4, 0) tape(1, 4, 0)").due("shift(0, 0, 1, 0, 0) shift(0, 0, 0, 0, 0)", 0).due("shift(0, 0, 1, 0, 1)", PLACE));
    }

    private static void constants() {
        sentence("The constants", () -> {
            due("NONE", CarpetReasons.NONE, -1);
            due("BAD", CarpetReasons.BAD, -2);
            due("STATE", CarpetReasons.STATE, -3);
            due("FULL", CarpetReasons.FULL, -4);
            due("NO", CarpetReasons.NO, Long.MIN_VALUE);
        });
        sentence("An object is used for at most 512 calls: the 512th answers", () ->
            new Run("goer(0, 0, 0, 0)").times(510, "pass(1)").due("told(10)", 510));
    }
}
