/**
 * A carpet of sixteen cells, those who tread it, and what can be reasoned from how it is worn.
 * Words in capitals are the terms of ../shared/DOC.md. A set of cells or of goers is an int whose
 * bit k stands for number k.
 */
public final class CarpetReasons {
    public static final int NONE = -1, BAD = -2, STATE = -3, FULL = -4;
    public static final long NO = Long.MIN_VALUE;

    private static final int NOT_ANY = -5;
    private static final int NOTHING = -11, CAST = -12, PLACE = -13, SIZE = -14;
    private static final int CELLS = 16, EVERY_CELL = 65535;
    private static final int GOERS = 6;
    private static final int MOST_V = 9;
    private static final int MOST_WEAR = 9999, LAST_DAY = 9999, MOST_DAYS = 60;

    private final Carpet carpet;
    private final Carpet carpetOfImage;
    private final Notes notes;
    private final Notes notesOfImage;
    private boolean imageTaken;
    private final Rooms rooms;
    private final Asked asked;
    private final Acts acts;
    private final Tapes tapes;

    public CarpetReasons() {
        carpet = new Carpet();
        carpetOfImage = new Carpet();
        notes = new Notes();
        notesOfImage = new Notes();
        rooms = new Rooms();
        asked = new Asked(carpet, notes, rooms);
        acts = new Acts();
        tapes = new Tapes();
    }

    // ---- goers, rooms, the carpet

    public int goer(int kind, int v, int from, int to) {
        if (!Kinds.isKind(kind) || !Cells.isCell(from) || !Cells.isCell(to)) return NONE;
        if (!isBetween(v, 0, MOST_V)) return BAD;
        if (carpet.goers >= GOERS) return FULL;
        int goer = carpet.addGoer(kind, v, from, to);
        learnYields(goer);
        return goer;
    }

    public int of(int goer, int what) {
        if (!carpet.hasGoer(goer)) return NONE;
        if (isCellAsked(what, 10)) return carpet.cellOfWay(goer, what - 10);
        if (isCellAsked(what, 30)) return carpet.treads(goer, what - 30, 1);
        if (isCellAsked(what, 50)) return carpet.yields[goer * CELLS + what - 50];
        switch (what) {
            case 0: return carpet.kind[goer];
            case 1: return carpet.v[goer];
            case 2: return carpet.from[goer];
            case 3: return carpet.to[goer];
            case 4: return oneIf(carpet.isAway(goer));
            case 5: return Cells.howMany(carpet.ways[goer]);
            default: return NONE;
        }
    }

    public int set(int cell, int n) {
        if (!Cells.isCell(cell)) return NONE;
        if (!isBetween(n, 0, MOST_WEAR)) return BAD;
        int was = carpet.wear[cell];
        carpet.wear[cell] = n;
        return was;
    }

    public int move(int goer, int what, int cell) {
        if (!carpet.hasGoer(goer) || !isBetween(what, 0, 1) || !Cells.isCell(cell)) return NONE;
        int[] ends = what == 0 ? carpet.from : carpet.to;
        int was = ends[goer];
        ends[goer] = cell;
        carpet.findWay(goer);
        return was;
    }

    public int away(int goer, boolean is) {
        if (!carpet.hasGoer(goer)) return NONE;
        int was = oneIf(carpet.isAway(goer));
        carpet.putAway(goer, is);
        return was;
    }

    public int stand(int cell, boolean is) {
        if (!Cells.isCell(cell)) return NONE;
        boolean was = Cells.has(carpet.furniture, cell);
        if (was != is) carpet.furnish(carpet.furniture ^ 1 << cell);
        return oneIf(was);
    }

    public int row(int goer, int part, int n) {
        if (!carpet.hasGoer(goer) || !isBetween(part, 0, Carpet.PARTS - 1)) return NONE;
        if (!isBetween(n, 0, 9)) return BAD;
        if (carpet.kind[goer] != Kinds.TOLD) return STATE;
        int place = goer * Carpet.PARTS + part;
        int was = carpet.rows[place];
        carpet.rows[place] = n;
        return was;
    }

    public int feed(int sign) {
        if (!isBetween(sign, 0, 127)) return BAD;
        return rooms.addSign((byte) sign) ? rooms.textLength() : FULL;
    }

    public int room() {
        int number = rooms.closeText();
        if (number < 0) return number;
        carpet.room = number;
        carpet.baldAt = rooms.baldAt();
        for (int goer = 0; goer < carpet.goers; goer++) learnYields(goer);
        return number;
    }

    public int told(int what) {
        if (isCellAsked(what, 10)) return carpet.wear[what - 10];
        switch (what) {
            case 0: return carpet.day;
            case 1: return carpet.baldAt;
            case 2: return carpet.furniture;
            case 3: return carpet.baldCells();
            case 4: return carpet.wearOfAll();
            case 5: return carpet.troddenCells();
            case 6: return asked.firstWorn();
            default: return NONE;
        }
    }

    // ---- days

    public int pass(int n) {
        if (!isBetween(n, 0, MOST_DAYS)) return BAD;
        if (carpet.day + n > LAST_DAY) return STATE;
        carpet.spend(n);
        carpet.limitWear();
        return carpet.day;
    }

    public int on(int n, int what) {
        boolean isOfCell = isCellAsked(what, 10);
        if (!isOfCell && !isBetween(what, 0, 1)) return NONE;
        if (!isBetween(n, 0, MOST_DAYS)) return BAD;
        Carpet then = asked.behind(n);
        if (isOfCell) return then.wear[what - 10];
        return what == 0 ? then.baldCells() : then.wearOfAll();
    }

    public int worn(int cell) {
        return Cells.isCell(cell) ? asked.daysUntilBald(cell) : NONE;
    }

    public int meet(int one, int other) {
        if (!carpet.hasGoer(one) || !carpet.hasGoer(other)) return NONE;
        if (one == other) return BAD;
        return carpet.ways[one] & carpet.ways[other];
    }

    // ---- prints, furniture, new carpet

    public int who(int print, int n, int what) {
        if (!isBetween(what, 0, 1)) return NONE;
        if (!isBetween(print, 0, EVERY_CELL) || !isBetween(n, 1, 20)) return BAD;
        return what == 0 ? asked.fewestWhoLeft(print, n) : asked.setsWhoLeft(print, n);
    }

    public int best(int what) {
        switch (what) {
            case 0: return asked.bestFurniture();
            case 1: return asked.cellToLay();
            default: return NONE;
        }
    }

    // ---- seen, odds

    public int see(int cell, int more, int n) {
        if (cell == -1) return notes.forgetSeen();
        if (!Cells.isCell(cell)) return NONE;
        if (!isBetween(more, 0, MOST_WEAR) || !isBetween(n, 0, 20)) return BAD;
        return notes.addSeen(cell, more, n) ? notes.seen : FULL;
    }

    public int starts(int goer) {
        return carpet.hasGoer(goer) ? asked.startsOf(goer) : NONE;
    }

    public int can(int goer, int what) {
        if (!carpet.hasGoer(goer) || !isBetween(what, 0, 1)) return NONE;
        int fitting = asked.fittingNumbers(goer);
        return what == 0 ? Cells.howMany(fitting) : Cells.first(fitting);
    }

    public int sole() {
        return asked.soleGoers();
    }

    public long odds(int cell, int n, int part) {
        if (!Cells.isCell(cell) || !isBetween(n, 0, MOST_DAYS) || carpet.goers == 0) return NO;
        return partOfFraction(asked.goersWithoutWhomBald(cell, n), carpet.goers, part);
    }

    public long mean(int n, int part) {
        if (!isBetween(n, 0, MOST_DAYS)) return NO;
        return partOfFraction(asked.behind(n).wearOfAll(), CELLS, part);
    }

    // ---- plans, books

    public int plan(int what, int n) {
        if (what == -1) return notes.forgetPlan();
        if (!isBetween(what, 0, 3)) return NONE;
        if (what == 1 && !carpet.hasGoer(n)) return NONE;
        if (what >= 2 && !Cells.isCell(n)) return NONE;
        return notes.addToPlan(what, n) ? notes.planned : FULL;
    }

    public int ends(int what) {
        if (!isBetween(what, 0, 1)) return NONE;
        Carpet then = asked.behindPlan();
        return what == 0 ? then.wearOfAll() : Cells.howMany(then.baldCells());
    }

    public int book(int cell, int wear) {
        if (cell == -1) return notes.forgetBook();
        if (!Cells.isCell(cell)) return NONE;
        if (!isBetween(wear, 0, MOST_WEAR)) return BAD;
        return notes.addToBook(cell, wear) ? notes.booked : FULL;
    }

    public int looked() {
        return notes.firstOtherwise(carpet);
    }

    // ---- judging, the image, acts, tapes

    public int judge(int tape, int i) {
        if (!Tapes.isTape(tape)) return NONE;
        if (tapes.isEmpty(tape)) return 100;
        if (tapes.sortOf(tape) != Tapes.SHORTS) return CAST;
        for (int cell = 0; cell < CELLS; cell++) {
            if (!tapes.hasPlace(tape, i + cell)) return 100 + cell;
            if (tapes.itemAt(tape, i + cell) != carpet.wear[cell]) return cell;
        }
        return NOT_ANY;
    }

    public int image() {
        carpetOfImage.become(carpet);
        notesOfImage.become(notes);
        imageTaken = true;
        return carpet.goers;
    }

    public int undo() {
        if (!imageTaken) return STATE;
        carpet.become(carpetOfImage);
        notes.become(notesOfImage);
        return carpet.goers;
    }

    public int act(int goer, int act, int x) {
        acts.forgetTrace();
        if (!carpet.hasGoer(goer) || !Acts.isAct(act)) return 0;
        return acts.actOf(goer, carpet.kind[goer], carpet.v[goer], act, x);
    }

    public int trace(int i) {
        return acts.bodyAt(i);
    }

    public int taken(int goer, int k) {
        if (!Kinds.isKind(k)) return BAD;
        if (!carpet.hasGoer(goer)) return NOTHING;
        int kind = carpet.kind[goer];
        return Kinds.isUnder(kind, k) ? kind : CAST;
    }

    public int count(int what) {
        switch (what) {
            case 0: return carpet.goers;
            case 1: return rooms.howMany();
            case 2: return notes.seen;
            case 3: return notes.planned;
            case 4: return notes.booked;
            case 5: return rooms.textLength();
            case 6: return acts.howManyRan();
            default: return BAD;
        }
    }

    public int tape(int tape, int sort, int n) {
        if (!Tapes.isTape(tape)) return NONE;
        if (!isBetween(sort, Tapes.EMPTY, Tapes.BOOLEANS)) return BAD;
        if (sort != Tapes.EMPTY && n > Tapes.LONGEST) return BAD;
        if (sort != Tapes.EMPTY && n < 0) return SIZE;
        tapes.renew(tape, sort, n);
        return 1;
    }

    public int item(int tape, int i, long v) {
        if (!Tapes.isTape(tape)) return NONE;
        if (tapes.isEmpty(tape)) return NOTHING;
        if (!tapes.hasPlace(tape, i)) return PLACE;
        tapes.put(tape, i, v);
        return 1;
    }

    public long read(int tape, int i) {
        return tapes.hasPlace(tape, i) ? tapes.itemAt(tape, i) : NO;
    }

    public int shift(int tape, int i, int other, int j, int n) {
        if (!Tapes.isTape(tape) || !Tapes.isTape(other)) return NONE;
        if (tapes.isEmpty(tape) || tapes.isEmpty(other)) return NOTHING;
        if (tapes.sortOf(tape) != tapes.sortOf(other)) return CAST;
        if (!tapes.hasStretch(tape, i, n) || !tapes.hasStretch(other, j, n)) return PLACE;
        tapes.copy(tape, i, other, j, n);
        return n;
    }

    // ---- what the calls above share

    private void learnYields(int goer) {
        rooms.readFor(carpet.room, goer, carpet.kind[goer], carpet.v[goer]);
        rooms.copyYields(carpet.yields, goer);
    }

    private static boolean isBetween(int n, int least, int most) {
        return n >= least && n <= most;
    }

    private static boolean isCellAsked(int what, int first) {
        return what >= first && what < first + CELLS;
    }

    private static int oneIf(boolean is) {
        return is ? 1 : 0;
    }

    private static long partOfFraction(int above, int below, int part) {
        if (part != 0 && part != 1) return NO;
        int common = commonDivisor(above, below);
        if (common == 0) return NO;
        return part == 0 ? above / common : below / common;
    }

    private static int commonDivisor(int a, int b) {
        int one = a;
        int other = b;
        // Euclid's remainders of two ints are 0 in less than 50 steps.
        for (int step = 0; step < 50 && other != 0; step++) {
            int rest = one % other;
            one = other;
            other = rest;
        }
        return one;
    }

    /** What holds of cells and sets of them, whatever lies on them. */
    private static final class Cells {
        private static final int FIRST_COLUMN = 0x1111, LAST_COLUMN = 0x8888;

        static boolean isCell(int cell) {
            return cell >= 0 && cell < CELLS;
        }

        static boolean has(int bits, int cell) {
            return (bits >> cell & 1) != 0;
        }

        /** All cells NEXT to one of those given. */
        static int nextTo(int bits) {
            int acrossRows = bits << 4 | bits >> 4;
            int acrossColumns = (bits & ~LAST_COLUMN) << 1 | (bits & ~FIRST_COLUMN) >> 1;
            return (acrossRows | acrossColumns) & EVERY_CELL;
        }

        static int first(int bits) {
            for (int cell = 0; cell < CELLS; cell++) {
                if ((bits >> cell & 1) != 0) return cell;
            }
            return NOT_ANY;
        }

        static int howMany(int bits) {
            int number = 0;
            for (int cell = 0; cell < CELLS; cell++) number += bits >> cell & 1;
            return number;
        }
    }

    /** The KINDS and which is under which. */
    private static final class Kinds {
        static final int GOER = 0, PACER = 1, BLIND = 2, THIEF = 3, TURNER = 4, DANCER = 5, TOLD = 6;
        private static final int[] ABOVE = {-1, GOER, GOER, GOER, PACER, BLIND, THIEF};

        static boolean isKind(int kind) {
            return kind >= GOER && kind <= TOLD;
        }

        static int above(int kind) {
            return isKind(kind) ? ABOVE[kind] : -1;
        }

        /** Whether a kind is the other one or one under it. */
        static boolean isUnder(int kind, int other) {
            int at = kind;
            for (int level = 0; level < ABOVE.length && at >= 0 && at < ABOVE.length; level++) {
                if (at == other) return true;
                at = ABOVE[at];
            }
            return false;
        }
    }

    /** How all is: cells, furniture, goers, DAY, and what the ROOM that holds says of them. */
    private static final class Carpet {
        static final int PARTS = 4;

        final int[] wear = new int[CELLS];
        final int[] kind = new int[GOERS];
        final int[] v = new int[GOERS];
        final int[] from = new int[GOERS];
        final int[] to = new int[GOERS];
        final int[] rows = new int[GOERS * PARTS];
        /** The cells of each goer's WAY; kept right by all that changes ends or furniture. */
        final int[] ways = new int[GOERS];
        final int[] yields = new int[GOERS * CELLS];
        int goers;
        int away;
        int furniture;
        int day;
        int room = -1;
        int baldAt = Rooms.BALD_WITHOUT;
        private final Search search = new Search();

        void become(Carpet other) {
            System.arraycopy(other.wear, 0, wear, 0, CELLS);
            System.arraycopy(other.kind, 0, kind, 0, GOERS);
            System.arraycopy(other.v, 0, v, 0, GOERS);
            System.arraycopy(other.from, 0, from, 0, GOERS);
            System.arraycopy(other.to, 0, to, 0, GOERS);
            System.arraycopy(other.rows, 0, rows, 0, GOERS * PARTS);
            System.arraycopy(other.ways, 0, ways, 0, GOERS);
            System.arraycopy(other.yields, 0, yields, 0, GOERS * CELLS);
            goers = other.goers;
            away = other.away;
            furniture = other.furniture;
            day = other.day;
            room = other.room;
            baldAt = other.baldAt;
        }

        boolean hasGoer(int goer) {
            return goer >= 0 && goer < goers;
        }

        boolean isAway(int goer) {
            return (away >> goer & 1) != 0;
        }

        void putAway(int goer, boolean is) {
            away = is ? away | 1 << goer : away & ~(1 << goer);
        }

        /** The caller has seen to it that there is place. */
        int addGoer(int itsKind, int itsV, int itsFrom, int itsTo) {
            int goer = goers;
            goers++;
            kind[goer] = itsKind;
            v[goer] = itsV;
            from[goer] = itsFrom;
            to[goer] = itsTo;
            // Nothing writes beyond the last goer, so he is not AWAY and his ROW is 0.
            findWay(goer);
            return goer;
        }

        void furnish(int cells) {
            furniture = cells;
            for (int goer = 0; goer < goers; goer++) findWay(goer);
        }

        void findWay(int goer) {
            ways[goer] = search.cellsOf(walkTo(goer));
        }

        int cellOfWay(int goer, int k) {
            return search.cellAt(k, walkTo(goer));
        }

        private int walkTo(int goer) {
            boolean isBlind = kind[goer] == Kinds.BLIND || kind[goer] == Kinds.DANCER;
            return search.walk(from[goer], to[goer], isBlind ? EVERY_CELL : EVERY_CELL & ~furniture);
        }

        /** TREADS of a goer on a cell on this many DAYS from now on, together. */
        int treads(int goer, int cell, int days) {
            if (isAway(goer) || ways[goer] == 0) return 0;
            int onWay = Cells.has(ways[goer], cell) ? treadsOnWay(goer, days) : 0;
            switch (kind[goer]) {
                case Kinds.TURNER: return onWay + (cell == to[goer] ? v[goer] * days : 0);
                case Kinds.DANCER: return onWay + (Cells.has(Cells.nextTo(1 << to[goer]), cell) ? days : 0);
                case Kinds.TOLD: return onWay + (cell == from[goer] ? treadsOfRow(goer, days) : 0);
                default: return onWay;
            }
        }

        private int treadsOnWay(int goer, int days) {
            switch (kind[goer]) {
                case Kinds.PACER: case Kinds.TURNER: return 2 * days;
                case Kinds.THIEF: case Kinds.TOLD: return (day + days) / 2 - day / 2;
                default: return days;
            }
        }

        private int treadsOfRow(int goer, int days) {
            int sum = 0;
            for (int k = 0; k < days; k++) sum += rows[goer * PARTS + (day + k) % PARTS];
            return sum;
        }

        int troddenCells() {
            int cells = 0;
            for (int goer = 0; goer < goers; goer++) {
                for (int cell = 0; cell < CELLS; cell++) {
                    if (treads(goer, cell, 1) > 0) cells |= 1 << cell;
                }
            }
            return cells;
        }

        /** The cells that a goer wears within this many DAYS. */
        int printOf(int goer, int days) {
            int cells = 0;
            for (int cell = 0; cell < CELLS; cell++) {
                if (treads(goer, cell, days) * yields[goer * CELLS + cell] > 0) cells |= 1 << cell;
            }
            return cells;
        }

        /** How much more WEAR a cell has behind this many DAYS, however much that is. */
        int gain(int cell, int days) {
            int sum = 0;
            for (int goer = 0; goer < goers; goer++) {
                sum += treads(goer, cell, days) * yields[goer * CELLS + cell];
            }
            return sum;
        }

        /** Lets DAYS go; WEAR may pass its most, as it does in all that is only asked. */
        void spend(int days) {
            for (int cell = 0; cell < CELLS; cell++) wear[cell] += gain(cell, days);
            day += days;
        }

        void limitWear() {
            for (int cell = 0; cell < CELLS; cell++) wear[cell] = Math.min(wear[cell], MOST_WEAR);
        }

        int wearOfAll() {
            int sum = 0;
            for (int cell = 0; cell < CELLS; cell++) sum += wear[cell];
            return sum;
        }

        int baldCells() {
            int cells = 0;
            for (int cell = 0; cell < CELLS; cell++) {
                if (wear[cell] >= baldAt) cells |= 1 << cell;
            }
            return cells;
        }
    }

    /** Looks for the first of the shortest WAYS. */
    private static final class Search {
        /** Behind a walk: the cells that are k steps away from its end. */
        private final int[] layers = new int[CELLS];
        private final int[] path = new int[CELLS];

        /** How many cells the walk has; 0 if there is none over the free cells. */
        int walk(int from, int to, int free) {
            if (!Cells.has(free, from) || !Cells.has(free, to)) return 0;
            int steps = 0;
            int reached = 1 << to;
            layers[0] = reached;
            while (steps < CELLS - 1 && !Cells.has(reached, from)) {
                int more = Cells.nextTo(layers[steps]) & free & ~reached;
                steps++;
                layers[steps] = more;
                reached |= more;
            }
            if (!Cells.has(reached, from)) return 0;
            path[0] = from;
            for (int k = 1; k <= steps; k++) {
                // The least cell at each step makes the row the first of those as short.
                path[k] = Cells.first(Cells.nextTo(1 << path[k - 1]) & layers[steps - k]);
            }
            return steps + 1;
        }

        int cellsOf(int length) {
            int cells = 0;
            for (int k = 0; k < length && k < CELLS; k++) cells |= 1 << path[k];
            return cells;
        }

        int cellAt(int k, int length) {
            return k >= 0 && k < length && k < CELLS ? path[k] : NOT_ANY;
        }
    }

    /** THE TEXT and the ROOMS, and the reading of them. */
    private static final class Rooms {
        static final int BALD_WITHOUT = 30;
        private static final int MOST = 6, LONGEST = 100, CLAUSES = 10, DEEPEST = 4;

        /** A stretch for each ROOM; the one behind the last ROOM is THE TEXT's. */
        private final byte[] signs = new byte[(MOST + 1) * LONGEST];
        private final int[] lengths = new int[MOST + 1];
        private int made;

        // What is being read, and for whom.
        private int start;
        private int length;
        private int at;
        private boolean broken;
        private int goer;
        private int kind;
        private int v;
        private final int[] sums = new int[CELLS];
        private int bald;

        int howMany() {
            return made;
        }

        int textLength() {
            return lengths[made];
        }

        boolean addSign(byte sign) {
            int signsSoFar = lengths[made];
            if (signsSoFar >= LONGEST) return false;
            signs[made * LONGEST + signsSoFar] = sign;
            lengths[made] = signsSoFar + 1;
            return true;
        }

        /** Makes THE TEXT a ROOM: its number, or what room() is to answer. */
        int closeText() {
            if (made >= MOST) return FULL;
            readFor(made, 0, 0, 0);
            if (broken) {
                lengths[made] = 0;
                return -10 - at;
            }
            // THE TEXT is empty then: it goes on in the next stretch.
            made++;
            return made - 1;
        }

        /** BALD's number in what was read last. */
        int baldAt() {
            return bald;
        }

        /** What the cells YIELD to the goer for whom it was read last. */
        void copyYields(int[] yields, int itsGoer) {
            for (int cell = 0; cell < CELLS; cell++) {
                yields[itsGoer * CELLS + cell] = Math.max(0, sums[cell]);
            }
        }

        /** Reads a ROOM, or THE TEXT, for a goer; without one (-1) there are no CLAUSES. */
        void readFor(int room, int itsGoer, int itsKind, int itsV) {
            goer = itsGoer;
            kind = itsKind;
            v = itsV;
            at = 0;
            broken = false;
            bald = BALD_WITHOUT;
            for (int cell = 0; cell < CELLS; cell++) sums[cell] = 1;
            if (room < 0 || room > MOST) return;
            start = room * LONGEST;
            length = lengths[room];
            clause();
            for (int k = 1; k < CLAUSES && !broken && sign() == ';'; k++) {
                at++;
                clause();
            }
            if (at < length) broken = true;
        }

        private void clause() {
            if (sign() == 'b') {
                word("bald ");
                bald = number();
                return;
            }
            int way = sign() == 'h' ? -1 : 1;
            word(way < 0 ? "hard " : "soft ");
            int n = number();
            word(" ");
            int cells = expression(0);
            for (int cell = 0; cell < CELLS; cell++) {
                if (Cells.has(cells, cell)) sums[cell] += way * n;
            }
        }

        /** The cells of which E holds; depth is how many ( and ! it is within. */
        private int expression(int depth) {
            int any = 0;
            int both = EVERY_CELL;
            for (int k = 0; k < LONGEST && !broken; k++) {
                both &= factor(depth);
                int next = sign();
                if (broken || next != '|' && next != '&') break;
                if (next == '|') {
                    any |= both;
                    both = EVERY_CELL;
                }
                at++;
            }
            return any | both;
        }

        private int factor(int depth) {
            int inner = depth;
            boolean turned = false;
            for (int k = 0; k < DEEPEST && inner < DEEPEST && sign() == '!'; k++) {
                at++;
                inner++;
                turned = !turned;
            }
            int cells;
            if (sign() == '(' && inner < DEEPEST) {
                at++;
                cells = expression(inner + 1);
                word(")");
            } else {
                cells = test();
            }
            return turned ? EVERY_CELL & ~cells : cells;
        }

        private int test() {
            int letter = sign();
            if (!isLetter(letter)) return fail();
            at++;
            int compared = sign();
            if (compared != '<' && compared != '=' && compared != '>') return fail();
            at++;
            int n = number();
            int cells = 0;
            for (int cell = 0; cell < CELLS; cell++) {
                int value = valueOf(letter, cell);
                if (compared == '<' ? value < n : compared == '>' ? value > n : value == n) cells |= 1 << cell;
            }
            return cells;
        }

        private static boolean isLetter(int sign) {
            return sign == 'c' || sign == 'r' || sign == 'x' || sign == 'g' || sign == 'k' || sign == 'v';
        }

        private int valueOf(int letter, int cell) {
            switch (letter) {
                case 'c': return cell;
                case 'r': return cell / 4;
                case 'x': return cell % 4;
                case 'g': return goer;
                case 'k': return kind;
                default: return v;
            }
        }

        /** One or two digits. */
        private int number() {
            int n = 0;
            int digits = 0;
            for (int k = 0; k < 2 && !broken && at < length; k++) {
                int place = start + at;
                int digit = place >= 0 && place < signs.length ? signs[place] - '0' : -1;
                if (digit < 0 || digit > 9) break;
                n = 10 * n + digit;
                at++;
                digits++;
            }
            if (digits == 0) broken = true;
            return n;
        }

        private void word(String word) {
            for (int k = 0; k < word.length() && !broken; k++) {
                if (sign() == word.charAt(k)) at++;
                else fail();
            }
        }

        /** From here on nothing is read any more, so that the place stays the FAULT. */
        private int fail() {
            broken = true;
            return 0;
        }

        /** The sign that comes; -1 at the end, and behind a FAULT. */
        private int sign() {
            int place = start + at;
            return !broken && at < length && place >= 0 && place < signs.length ? signs[place] : -1;
        }
    }

    /** What is told by hand: SEEN, the PLAN, the BOOK. */
    private static final class Notes {
        static final int MOST_SEEN = 5, MOST_PLANNED = 10, MOST_BOOKED = 8;

        private final int[] seenCells = new int[MOST_SEEN];
        private final int[] seenMore = new int[MOST_SEEN];
        private final int[] seenDays = new int[MOST_SEEN];
        final int[] planWhats = new int[MOST_PLANNED];
        final int[] planNumbers = new int[MOST_PLANNED];
        private final int[] bookCells = new int[MOST_BOOKED];
        private final int[] bookWears = new int[MOST_BOOKED];
        int seen;
        int planned;
        int booked;

        void become(Notes other) {
            System.arraycopy(other.seenCells, 0, seenCells, 0, MOST_SEEN);
            System.arraycopy(other.seenMore, 0, seenMore, 0, MOST_SEEN);
            System.arraycopy(other.seenDays, 0, seenDays, 0, MOST_SEEN);
            System.arraycopy(other.planWhats, 0, planWhats, 0, MOST_PLANNED);
            System.arraycopy(other.planNumbers, 0, planNumbers, 0, MOST_PLANNED);
            System.arraycopy(other.bookCells, 0, bookCells, 0, MOST_BOOKED);
            System.arraycopy(other.bookWears, 0, bookWears, 0, MOST_BOOKED);
            seen = other.seen;
            planned = other.planned;
            booked = other.booked;
        }

        int forgetSeen() {
            seen = 0;
            return seen;
        }

        boolean addSeen(int cell, int more, int days) {
            if (seen >= MOST_SEEN) return false;
            seenCells[seen] = cell;
            seenMore[seen] = more;
            seenDays[seen] = days;
            seen++;
            return true;
        }

        boolean isAllSeenSo(Carpet carpet) {
            for (int k = 0; k < seen && k < MOST_SEEN; k++) {
                if (carpet.gain(seenCells[k], seenDays[k]) != seenMore[k]) return false;
            }
            return true;
        }

        int forgetPlan() {
            planned = 0;
            return planned;
        }

        boolean addToPlan(int what, int n) {
            if (planned >= MOST_PLANNED) return false;
            planWhats[planned] = what;
            planNumbers[planned] = n;
            planned++;
            return true;
        }

        int forgetBook() {
            booked = 0;
            return booked;
        }

        boolean addToBook(int cell, int wear) {
            if (booked >= MOST_BOOKED) return false;
            bookCells[booked] = cell;
            bookWears[booked] = wear;
            booked++;
            return true;
        }

        int firstOtherwise(Carpet carpet) {
            for (int k = 0; k < booked && k < MOST_BOOKED; k++) {
                if (carpet.wear[bookCells[k]] != bookWears[k]) return k;
            }
            return NOT_ANY;
        }
    }

    /** What is asked of days to come and of how else all could be: tried on a carpet of its own. */
    private static final class Asked {
        private static final int STAND_DAYS = 10, LAY_DAYS = 20;

        private final Carpet now;
        private final Notes notes;
        private final Rooms rooms;
        private final Carpet trial = new Carpet();
        private final int[] prints = new int[GOERS];

        Asked(Carpet now, Notes notes, Rooms rooms) {
            this.now = now;
            this.notes = notes;
            this.rooms = rooms;
        }

        Carpet behind(int days) {
            trial.become(now);
            trial.spend(days);
            return trial;
        }

        Carpet behindPlan() {
            trial.become(now);
            for (int k = 0; k < notes.planned && k < Notes.MOST_PLANNED; k++) {
                int n = notes.planNumbers[k];
                switch (notes.planWhats[k]) {
                    case 0: trial.spend(1); break;
                    case 1: trial.putAway(n, true); break;
                    case 2: trial.wear[n] = 0; break;
                    default: trial.furnish(trial.furniture ^ 1 << n); break;
                }
            }
            return trial;
        }

        int daysUntilBald(int cell) {
            for (int days = 0; days <= MOST_DAYS; days++) {
                if (now.wear[cell] + now.gain(cell, days) >= now.baldAt) return days;
            }
            return NOT_ANY;
        }

        int firstWorn() {
            int baldNow = now.baldCells();
            trial.become(now);
            for (int days = 1; days <= MOST_DAYS; days++) {
                trial.spend(1);
                int fresh = trial.baldCells() & ~baldNow;
                if (fresh != 0) return Cells.first(fresh);
            }
            return NOT_ANY;
        }

        int fewestWhoLeft(int print, int days) {
            takePrints(days);
            int best = NOT_ANY;
            for (int set = 0; set < 1 << now.goers; set++) {
                boolean isFewer = best < 0 || Cells.howMany(set) < Cells.howMany(best);
                if (hasLeft(set, print) && isFewer) best = set;
            }
            return best;
        }

        int setsWhoLeft(int print, int days) {
            takePrints(days);
            int number = 0;
            for (int set = 0; set < 1 << now.goers; set++) {
                if (hasLeft(set, print)) number++;
            }
            return number;
        }

        private void takePrints(int days) {
            for (int goer = 0; goer < now.goers; goer++) prints[goer] = now.printOf(goer, days);
        }

        /** Nobody wipes out another's print, so a set's print is all of theirs together. */
        private boolean hasLeft(int set, int print) {
            if ((set & now.away) != 0) return false;
            int together = 0;
            for (int goer = 0; goer < now.goers; goer++) {
                if ((set >> goer & 1) != 0) together |= prints[goer];
            }
            return together == print;
        }

        int bestFurniture() {
            int free = freeCells();
            int least = behind(STAND_DAYS).wearOfAll();
            int best = NOT_ANY;
            for (int one = 0; one < CELLS; one++) {
                for (int other = one; other < CELLS; other++) {
                    int set = 1 << one | 1 << other;
                    if ((set & ~free) != 0) continue;
                    trial.become(now);
                    trial.furnish(now.furniture | set);
                    trial.spend(STAND_DAYS);
                    int sum = trial.wearOfAll();
                    if (sum < least || sum == least && best >= 0 && set < best) {
                        least = sum;
                        best = set;
                    }
                }
            }
            return best;
        }

        private int freeCells() {
            int taken = now.furniture;
            for (int goer = 0; goer < now.goers; goer++) taken |= 1 << now.from[goer] | 1 << now.to[goer];
            return EVERY_CELL & ~taken;
        }

        /** A new cell changes no other, so it helps just where it alone keeps its cell from being bald. */
        int cellToLay() {
            int bald = behind(LAY_DAYS).baldCells();
            for (int cell = 0; cell < CELLS; cell++) {
                if (Cells.has(bald, cell) && now.gain(cell, LAY_DAYS) < now.baldAt) return cell;
            }
            return NOT_ANY;
        }

        int startsOf(int goer) {
            int cells = 0;
            trial.become(now);
            for (int cell = 0; cell < CELLS; cell++) {
                trial.from[goer] = cell;
                trial.findWay(goer);
                if (notes.isAllSeenSo(trial)) cells |= 1 << cell;
            }
            return cells;
        }

        int fittingNumbers(int goer) {
            int fitting = 0;
            trial.become(now);
            for (int v = 0; v <= MOST_V; v++) {
                trial.v[goer] = v;
                rooms.readFor(now.room, goer, now.kind[goer], v);
                rooms.copyYields(trial.yields, goer);
                if (notes.isAllSeenSo(trial)) fitting |= 1 << v;
            }
            return fitting;
        }

        int soleGoers() {
            int sole = 0;
            trial.become(now);
            for (int goer = 0; goer < now.goers; goer++) {
                trial.away = ~(1 << goer);
                if (notes.isAllSeenSo(trial)) sole |= 1 << goer;
            }
            return sole;
        }

        int goersWithoutWhomBald(int cell, int days) {
            int number = 0;
            trial.become(now);
            for (int goer = 0; goer < now.goers; goer++) {
                trial.away = now.away | 1 << goer;
                if (trial.wear[cell] + trial.gain(cell, days) >= now.baldAt) number++;
            }
            return number;
        }
    }

    /** The ACTS: bodies that call one another by KIND, and THE TRACE of them. */
    private static final class Acts {
        private static final int STEPS = 0, TURNS = 1, TELLS = 2, ACTS = 3;
        private static final int KEPT = 20;
        /** No body's calls go deeper than this. */
        private static final int DEEPEST = 12;
        /** For each KIND the numbers of its bodies for steps, turns, tells; 0: it has none. */
        private static final int[] BODIES = {
            10, 11, 12,
            0, 20, 0,
            30, 0, 0,
            0, 0, 40,
            50, 51, 0,
            0, 0, 60,
            71, 70, 0,
        };

        private final int[] trace = new int[KEPT];
        private int ran;
        private int goer;
        private int kind;
        private int v;

        static boolean isAct(int act) {
            return act >= STEPS && act <= TELLS;
        }

        void forgetTrace() {
            ran = 0;
        }

        int howManyRan() {
            return ran;
        }

        int bodyAt(int i) {
            return i >= 0 && i < ran && i < KEPT ? trace[i] : NONE;
        }

        int actOf(int itsGoer, int itsKind, int itsV, int act, int x) {
            goer = itsGoer;
            kind = itsKind;
            v = itsV;
            return perform(kind, act, x, 0);
        }

        /** Runs the first body for an act that is found from a KIND upwards. */
        private int perform(int fromKind, int act, int x, int depth) {
            int body = 0;
            int at = fromKind;
            for (int level = 0; level < ACTS && body == 0 && Kinds.isKind(at) && isAct(act); level++) {
                body = BODIES[at * ACTS + act];
                at = Kinds.above(at);
            }
            if (body == 0 || depth > DEEPEST) return 0;
            if (ran < KEPT) trace[ran] = body;
            ran++;
            return run(body, x, depth + 1);
        }

        private int run(int body, int x, int depth) {
            switch (body) {
                case 10: return x + goer;
                case 11: return perform(kind, STEPS, x, depth) - v;
                case 12: return perform(kind, TURNS, x, depth) * 2;
                case 20: return perform(Kinds.GOER, TURNS, x, depth) ^ 6;
                case 30: return perform(Kinds.GOER, STEPS, x * 3, depth);
                case 40: return perform(Kinds.GOER, TELLS, x, depth) + perform(kind, TURNS, 1, depth);
                case 50: return -perform(Kinds.PACER, STEPS, x, depth);
                case 51: return perform(Kinds.PACER, TURNS, x + 1, depth);
                case 60: return perform(Kinds.BLIND, TELLS, x - goer, depth);
                case 70: return perform(Kinds.THIEF, TURNS, x, depth) + perform(Kinds.THIEF, STEPS, 2, depth);
                case 71: return perform(Kinds.THIEF, STEPS, x, depth) ^ v;
                default: return 0;
            }
        }
    }

    /** The TAPES; items of every sort are kept as longs of that sort's range. */
    private static final class Tapes {
        static final int EMPTY = -1, BYTES = 0, SHORTS = 1, INTS = 2, BOOLEANS = 4;
        static final int LONGEST = 60;
        private static final int TAPES = 6;

        private final long[] items = new long[TAPES * LONGEST];
        private final int[] sorts = {EMPTY, EMPTY, EMPTY, EMPTY, EMPTY, EMPTY};
        private final int[] sizes = new int[TAPES];

        static boolean isTape(int tape) {
            return tape >= 0 && tape < TAPES;
        }

        boolean isEmpty(int tape) {
            return sorts[tape] == EMPTY;
        }

        int sortOf(int tape) {
            return sorts[tape];
        }

        boolean hasPlace(int tape, int i) {
            return isTape(tape) && i >= 0 && i < sizes[tape];
        }

        /** Asked by subtraction, since i and n together may wrap. */
        boolean hasStretch(int tape, int i, int n) {
            return i >= 0 && n >= 0 && i <= sizes[tape] && n <= sizes[tape] - i;
        }

        void renew(int tape, int sort, int n) {
            sorts[tape] = sort;
            sizes[tape] = sort == EMPTY ? 0 : n;
            for (int i = 0; i < LONGEST; i++) items[tape * LONGEST + i] = 0;
        }

        long itemAt(int tape, int i) {
            return items[tape * LONGEST + i];
        }

        void put(int tape, int i, long v) {
            items[tape * LONGEST + i] = narrowed(v, sorts[tape]);
        }

        private static long narrowed(long v, int sort) {
            switch (sort) {
                case BYTES: return (byte) v;
                case SHORTS: return (short) v;
                case INTS: return (int) v;
                case BOOLEANS: return v != 0 ? 1 : 0;
                default: return v;
            }
        }

        void copy(int tape, int i, int other, int j, int n) {
            System.arraycopy(items, tape * LONGEST + i, items, other * LONGEST + j, n);
        }
    }
}
