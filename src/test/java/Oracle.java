import java.util.ArrayList;
import java.util.Arrays;
import java.util.HashMap;
import java.util.List;
import java.util.Map;
import java.util.function.ToLongFunction;
import java.util.regex.Matcher;
import java.util.regex.Pattern;

/**
 * The document once more, told in another way than the class tells it: goers are objects of classes
 * that override, days go one by one, ways are sought by trying all rows, the grammar of rooms is a
 * regular expression. RandomRuns compares the two.
 */
public final class Oracle {
    private static final int NONE = -1, BAD = -2, STATE = -3, FULL = -4, NOT_ANY = -5;
    private static final long NO = Long.MIN_VALUE;

    // ---- goers by kind

    static class Goer implements Cloneable {
        int number, kind, v, from, to;
        boolean away;
        int[] row = new int[4];
        List<Integer> trail;

        Goer copy() {
            try {
                Goer g = (Goer) clone();
                g.row = row.clone();
                return g;
            } catch (CloneNotSupportedException e) {
                throw new IllegalStateException(e);
            }
        }

        int steps(int x) { trail.add(10); return x + number; }
        int turns(int x) { trail.add(11); return steps(x) - v; }
        int tells(int x) { trail.add(12); return turns(x) * 2; }

        boolean seesFurniture() { return true; }

        int treads(int cell, long day, List<Integer> way) { return way.contains(cell) ? 1 : 0; }
    }

    static class Pacer extends Goer {
        @Override int turns(int x) { trail.add(20); return super.turns(x) ^ 6; }
        @Override int treads(int cell, long day, List<Integer> way) { return way.contains(cell) ? 2 : 0; }
    }

    static class Blind extends Goer {
        @Override int steps(int x) { trail.add(30); return super.steps(x * 3); }
        @Override boolean seesFurniture() { return false; }
    }

    static class Thief extends Goer {
        @Override int tells(int x) {
            trail.add(40);
            int a = super.tells(x);
            return a + turns(1);
        }
        @Override int treads(int cell, long day, List<Integer> way) {
            return day % 2 == 1 && way.contains(cell) ? 1 : 0;
        }
    }

    static class Turner extends Pacer {
        @Override int steps(int x) { trail.add(50); return -super.steps(x); }
        @Override int turns(int x) { trail.add(51); return super.turns(x + 1); }
        @Override int treads(int cell, long day, List<Integer> way) {
            return super.treads(cell, day, way) + (cell == to ? v : 0);
        }
    }

    static class Dancer extends Blind {
        @Override int tells(int x) { trail.add(60); return super.tells(x - number); }
        @Override int treads(int cell, long day, List<Integer> way) {
            return super.treads(cell, day, way) + (next(cell, to) ? 1 : 0);
        }
    }

    static class Told extends Thief {
        @Override int turns(int x) {
            trail.add(70);
            int a = super.turns(x);
            return a + super.steps(2);
        }
        @Override int steps(int x) { trail.add(71); return super.steps(x) ^ v; }
        @Override int treads(int cell, long day, List<Integer> way) {
            return super.treads(cell, day, way) + (cell == from ? row[(int) (day % 4)] : 0);
        }
    }

    static Goer ofKind(int kind) {
        Goer[] all = {new Goer(), new Pacer(), new Blind(), new Thief(), new Turner(), new Dancer(), new Told()};
        all[kind].kind = kind;
        return all[kind];
    }

    static final Class<?>[] KINDS = {
        Goer.class, Pacer.class, Blind.class, Thief.class, Turner.class, Dancer.class, Told.class};

    static boolean next(int a, int b) {
        int rows = Math.abs(a / 4 - b / 4);
        int columns = Math.abs(a % 4 - b % 4);
        return rows + columns == 1;
    }

    // ---- ways

    private static final Map<Integer, List<Integer>> WAYS = new HashMap<>();

    static List<Integer> way(int from, int to, int barred) {
        return WAYS.computeIfAbsent(barred << 8 | from << 4 | to, k -> {
            if ((barred >> from & 1) == 1) return List.of();
            for (int length = 1; length <= 16; length++) {
                List<Integer> row = new ArrayList<>(List.of(from));
                if (extend(row, to, barred, length)) return row;
            }
            return List.of();
        });
    }

    /** Tries the cells in their order, so that the first row found is the first of its length. */
    private static boolean extend(List<Integer> row, int to, int barred, int length) {
        int last = row.get(row.size() - 1);
        if (row.size() == length) return last == to;
        for (int cell = 0; cell < 16; cell++) {
            if (!next(last, cell) || (barred >> cell & 1) == 1 || row.contains(cell)) continue;
            row.add(cell);
            if (extend(row, to, barred, length)) return true;
            row.remove(row.size() - 1);
        }
        return false;
    }

    // ---- rooms

    static final Pattern ROOM = roomPattern();

    private static Pattern roomPattern() {
        String test = "[crxgkv][<=>][0-9]{1,2}";
        String f = "(?:" + test + ")";
        for (int depth = 0; depth < 4; depth++) f = "(?:" + test + "|!" + f + "|\\(" + e(f) + "\\))";
        String clause = "(?:(?:soft|hard) [0-9]{1,2} " + e(f) + "|bald [0-9]{1,2})";
        return Pattern.compile(clause + "(?:;" + clause + "){0,9}");
    }

    private static String e(String f) {
        String t = f + "(?:&" + f + ")*";
        return t + "(?:\\|" + t + ")*";
    }

    /** -1: it is a room. */
    static int fault(String text) {
        Matcher m = ROOM.matcher(text);
        if (m.matches()) return -1;
        for (int length = 1; length <= text.length(); length++) {
            Matcher some = ROOM.matcher(text.substring(0, length));
            if (!some.matches() && !some.hitEnd()) return length - 1;
        }
        return text.length();
    }

    static int yields(String room, int cell, Goer g) {
        int sum = 1;
        if (room != null) {
            for (String clause : room.split(";")) {
                String[] words = clause.split(" ");
                if (words[0].equals("bald")) continue;
                int n = Integer.parseInt(words[1]);
                if (holds(words[2], cell, g)) sum += words[0].equals("soft") ? n : -n;
            }
        }
        return Math.max(sum, 0);
    }

    static int baldNumber(String room) {
        int n = 30;
        if (room != null) {
            for (String clause : room.split(";")) if (clause.startsWith("bald ")) n = Integer.parseInt(clause.substring(5));
        }
        return n;
    }

    private static boolean holds(String e, int cell, Goer g) {
        int at = outermost(e, '|');
        if (at >= 0) return holds(e.substring(0, at), cell, g) | holds(e.substring(at + 1), cell, g);
        at = outermost(e, '&');
        if (at >= 0) return holds(e.substring(0, at), cell, g) & holds(e.substring(at + 1), cell, g);
        if (e.charAt(0) == '!') return !holds(e.substring(1), cell, g);
        if (e.charAt(0) == '(') return holds(e.substring(1, e.length() - 1), cell, g);
        Map<Character, Integer> values = Map.of(
            'c', cell, 'r', cell / 4, 'x', cell % 4, 'g', g.number, 'k', g.kind, 'v', g.v);
        int order = Integer.compare(values.get(e.charAt(0)), Integer.parseInt(e.substring(2)));
        return order == "<=>".indexOf(e.charAt(1)) - 1;
    }

    private static int outermost(String e, char sign) {
        int depth = 0;
        for (int i = 0; i < e.length(); i++) {
            char c = e.charAt(i);
            if (c == '(') depth++;
            if (c == ')') depth--;
            if (c == sign && depth == 0) return i;
        }
        return -1;
    }

    // ---- how all is

    static final class World {
        long[] wear = new long[16];
        boolean[] furniture = new boolean[16];
        List<Goer> goers = new ArrayList<>();
        long day;
        List<int[]> seen = new ArrayList<>();
        List<int[]> plan = new ArrayList<>();
        List<int[]> book = new ArrayList<>();
        String room;

        World copy() {
            World w = new World();
            w.wear = wear.clone();
            w.furniture = furniture.clone();
            for (Goer g : goers) w.goers.add(g.copy());
            w.day = day;
            w.seen = new ArrayList<>(seen);
            w.plan = new ArrayList<>(plan);
            w.book = new ArrayList<>(book);
            w.room = room;
            return w;
        }

        int barred() {
            int bits = 0;
            for (int c = 0; c < 16; c++) if (furniture[c]) bits |= 1 << c;
            return bits;
        }

        List<Integer> wayOf(Goer g) {
            return way(g.from, g.to, g.seesFurniture() ? barred() : 0);
        }

        int treads(Goer g, int cell) {
            List<Integer> way = wayOf(g);
            return g.away || way.isEmpty() ? 0 : g.treads(cell, day, way);
        }

        World days(int n, long most) {
            for (int k = 0; k < n; k++) {
                for (Goer g : goers) {
                    for (int c = 0; c < 16; c++) {
                        int t = treads(g, c);
                        if (t > 0) wear[c] += (long) t * yields(room, c, g);
                    }
                }
                for (int c = 0; c < 16; c++) wear[c] = Math.min(wear[c], most);
                day++;
            }
            return this;
        }

        World behind(int n) { return copy().days(n, Long.MAX_VALUE); }

        long all() { return Arrays.stream(wear).sum(); }

        boolean bald(int c) { return wear[c] >= baldNumber(room); }

        int baldBits() {
            int bits = 0;
            for (int c = 0; c < 16; c++) if (bald(c)) bits |= 1 << c;
            return bits;
        }

        boolean seenIsSo() {
            for (int[] s : seen) if (behind(s[2]).wear[s[0]] - wear[s[0]] != s[1]) return false;
            return true;
        }

        int printOf(int set, int n) {
            World w = copy();
            for (Goer g : w.goers) g.away = (set >> g.number & 1) == 0;
            Arrays.fill(w.wear, 0);
            w.days(n, Long.MAX_VALUE);
            int bits = 0;
            for (int c = 0; c < 16; c++) if (w.wear[c] > 0) bits |= 1 << c;
            return bits;
        }
    }

    World now = new World();
    private World image;
    private final List<String> rooms = new ArrayList<>();
    private final StringBuilder text = new StringBuilder();
    private List<Integer> trail = new ArrayList<>();
    private final Object[] tapes = new Object[6];

    private Goer g(int goer) {
        return goer >= 0 && goer < now.goers.size() ? now.goers.get(goer) : null;
    }

    private static boolean cell(int c) { return c >= 0 && c <= 15; }

    // ---- the face

    public int goer(int kind, int v, int from, int to) {
        if (kind < 0 || kind > 6 || !cell(from) || !cell(to)) return NONE;
        if (v < 0 || v > 9) return BAD;
        if (now.goers.size() == 6) return FULL;
        Goer g = ofKind(kind);
        g.number = now.goers.size();
        g.v = v;
        g.from = from;
        g.to = to;
        now.goers.add(g);
        return g.number;
    }

    public int of(int goer, int what) {
        Goer g = g(goer);
        if (g == null) return NONE;
        List<Integer> way = now.wayOf(g);
        if (what >= 0 && what <= 5) return new int[] {g.kind, g.v, g.from, g.to, g.away ? 1 : 0, way.size()}[what];
        if (what >= 10 && what < 26) return what - 10 < way.size() ? way.get(what - 10) : NOT_ANY;
        if (what >= 30 && what < 46) return now.treads(g, what - 30);
        if (what >= 50 && what < 66) return yields(now.room, what - 50, g);
        return NONE;
    }

    public int set(int c, int n) {
        if (!cell(c)) return NONE;
        if (n < 0 || n > 9999) return BAD;
        int was = (int) now.wear[c];
        now.wear[c] = n;
        return was;
    }

    public int move(int goer, int what, int c) {
        Goer g = g(goer);
        if (g == null || what < 0 || what > 1 || !cell(c)) return NONE;
        int was = what == 0 ? g.from : g.to;
        if (what == 0) g.from = c;
        else g.to = c;
        return was;
    }

    public int away(int goer, boolean is) {
        Goer g = g(goer);
        if (g == null) return NONE;
        boolean was = g.away;
        g.away = is;
        return was ? 1 : 0;
    }

    public int stand(int c, boolean is) {
        if (!cell(c)) return NONE;
        boolean was = now.furniture[c];
        now.furniture[c] = is;
        return was ? 1 : 0;
    }

    public int row(int goer, int part, int n) {
        Goer g = g(goer);
        if (g == null || part < 0 || part > 3) return NONE;
        if (n < 0 || n > 9) return BAD;
        if (!(g instanceof Told)) return STATE;
        int was = g.row[part];
        g.row[part] = n;
        return was;
    }

    public int feed(int sign) {
        if (sign < 0 || sign > 127) return BAD;
        if (text.length() == 100) return FULL;
        text.append((char) sign);
        return text.length();
    }

    public int room() {
        if (rooms.size() == 6) return FULL;
        String read = text.toString();
        text.setLength(0);
        int fault = fault(read);
        if (fault >= 0) return -10 - fault;
        rooms.add(read);
        now.room = read;
        return rooms.size() - 1;
    }

    public int told(int what) {
        if (what >= 10 && what < 26) return (int) now.wear[what - 10];
        switch (what) {
            case 0: return (int) now.day;
            case 1: return baldNumber(now.room);
            case 2: return now.barred();
            case 3: return now.baldBits();
            case 4: return (int) now.all();
            case 5:
                int bits = 0;
                for (Goer g : now.goers) for (int c = 0; c < 16; c++) if (now.treads(g, c) > 0) bits |= 1 << c;
                return bits;
            case 6:
                int best = NOT_ANY;
                for (int c = 15; c >= 0; c--) {
                    int n = worn(c);
                    if (n > 0 && (best < 0 || n <= worn(best))) best = c;
                }
                return best;
            default: return NONE;
        }
    }

    public int pass(int n) {
        if (n < 0 || n > 60) return BAD;
        if (now.day + n > 9999) return STATE;
        now.days(n, 9999);
        return (int) now.day;
    }

    public int on(int n, int what) {
        if (what != 0 && what != 1 && !(what >= 10 && what < 26)) return NONE;
        if (n < 0 || n > 60) return BAD;
        World w = now.behind(n);
        return what == 0 ? w.baldBits() : what == 1 ? (int) w.all() : (int) w.wear[what - 10];
    }

    public int worn(int c) {
        if (!cell(c)) return NONE;
        World w = now.copy();
        for (int n = 0; n <= 60; n++) {
            if (w.bald(c)) return n;
            w.days(1, Long.MAX_VALUE);
        }
        return NOT_ANY;
    }

    public int meet(int one, int other) {
        if (g(one) == null || g(other) == null) return NONE;
        if (one == other) return BAD;
        int bits = 0;
        for (int c : now.wayOf(g(one))) if (now.wayOf(g(other)).contains(c)) bits |= 1 << c;
        return bits;
    }

    public int who(int print, int n, int what) {
        if (what < 0 || what > 1) return NONE;
        if (print < 0 || print > 65535 || n < 1 || n > 20) return BAD;
        int best = NOT_ANY;
        int number = 0;
        for (int set = (1 << now.goers.size()) - 1; set >= 0; set--) {
            boolean anyAway = false;
            for (Goer g : now.goers) anyAway |= g.away && (set >> g.number & 1) == 1;
            if (anyAway || now.printOf(set, n) != print) continue;
            number++;
            if (best < 0 || Integer.bitCount(set) <= Integer.bitCount(best)) best = set;
        }
        return what == 0 ? best : number;
    }

    public int best(int what) {
        return what == 0 ? bestStand() : what == 1 ? bestLay() : NONE;
    }

    private int bestStand() {
        long least = now.behind(10).all();
        int best = NOT_ANY;
        for (int set = 1; set < 65536; set++) {
            if (Integer.bitCount(set) > 2) continue;
            boolean may = (set & now.barred()) == 0;
            for (Goer g : now.goers) may &= (set >> g.from & 1) == 0 && (set >> g.to & 1) == 0;
            if (!may) continue;
            World w = now.copy();
            for (int c = 0; c < 16; c++) if ((set >> c & 1) == 1) w.furniture[c] = true;
            long sum = w.days(10, Long.MAX_VALUE).all();
            if (sum < least) {
                least = sum;
                best = set;
            }
        }
        return best;
    }

    private int bestLay() {
        int fewest = Integer.bitCount(now.behind(20).baldBits());
        int best = NOT_ANY;
        for (int c = 0; c < 16; c++) {
            World w = now.copy();
            w.wear[c] = 0;
            int bald = Integer.bitCount(w.days(20, Long.MAX_VALUE).baldBits());
            if (bald < fewest) {
                fewest = bald;
                best = c;
            }
        }
        return best;
    }

    public int see(int c, int more, int n) {
        if (c == -1) {
            now.seen.clear();
            return 0;
        }
        if (!cell(c)) return NONE;
        if (more < 0 || more > 9999 || n < 0 || n > 20) return BAD;
        if (now.seen.size() == 5) return FULL;
        now.seen.add(new int[] {c, more, n});
        return now.seen.size();
    }

    public int starts(int goer) {
        if (g(goer) == null) return NONE;
        int bits = 0;
        for (int c = 0; c < 16; c++) {
            World w = now.copy();
            w.goers.get(goer).from = c;
            if (w.seenIsSo()) bits |= 1 << c;
        }
        return bits;
    }

    public int can(int goer, int what) {
        if (g(goer) == null || what < 0 || what > 1) return NONE;
        List<Integer> fitting = new ArrayList<>();
        for (int v = 0; v <= 9; v++) {
            World w = now.copy();
            w.goers.get(goer).v = v;
            if (w.seenIsSo()) fitting.add(v);
        }
        return what == 0 ? fitting.size() : fitting.isEmpty() ? NOT_ANY : fitting.get(0);
    }

    public int sole() {
        int bits = 0;
        for (Goer alone : now.goers) {
            World w = now.copy();
            for (Goer g : w.goers) g.away = g.number != alone.number;
            if (w.seenIsSo()) bits |= 1 << alone.number;
        }
        return bits;
    }

    private static long fraction(long above, long below, int part) {
        for (long d = Math.max(above, below); d > 1; d--) {
            if (above % d == 0 && below % d == 0) {
                above /= d;
                below /= d;
            }
        }
        return part == 0 ? above : part == 1 ? below : NO;
    }

    public long odds(int c, int n, int part) {
        if (!cell(c) || n < 0 || n > 60 || now.goers.isEmpty()) return NO;
        int bald = 0;
        for (Goer gone : now.goers) {
            World w = now.copy();
            w.goers.get(gone.number).away = true;
            if (w.days(n, Long.MAX_VALUE).bald(c)) bald++;
        }
        return fraction(bald, now.goers.size(), part);
    }

    public long mean(int n, int part) {
        return n < 0 || n > 60 ? NO : fraction(now.behind(n).all(), 16, part);
    }

    public int plan(int what, int n) {
        if (what == -1) {
            now.plan.clear();
            return 0;
        }
        if (what < 0 || what > 3 || what == 1 && g(n) == null || what > 1 && !cell(n)) return NONE;
        if (now.plan.size() == 10) return FULL;
        now.plan.add(new int[] {what, n});
        return now.plan.size();
    }

    public int ends(int what) {
        if (what < 0 || what > 1) return NONE;
        World w = now.copy();
        for (int[] p : now.plan) {
            if (p[0] == 0) w.days(1, Long.MAX_VALUE);
            if (p[0] == 1) w.goers.get(p[1]).away = true;
            if (p[0] == 2) w.wear[p[1]] = 0;
            if (p[0] == 3) w.furniture[p[1]] = !w.furniture[p[1]];
        }
        return what == 0 ? (int) w.all() : Integer.bitCount(w.baldBits());
    }

    public int book(int c, int wear) {
        if (c == -1) {
            now.book.clear();
            return 0;
        }
        if (!cell(c)) return NONE;
        if (wear < 0 || wear > 9999) return BAD;
        if (now.book.size() == 8) return FULL;
        now.book.add(new int[] {c, wear});
        return now.book.size();
    }

    public int looked() {
        for (int k = 0; k < now.book.size(); k++) if (now.wear[now.book.get(k)[0]] != now.book.get(k)[1]) return k;
        return NOT_ANY;
    }

    public int judge(int tape, int i) {
        if (tape < 0 || tape > 5) return NONE;
        if (tapes[tape] == null) return 100;
        if (!(tapes[tape] instanceof short[])) return CAST;
        short[] row = (short[]) tapes[tape];
        if (i < 0) return 100;
        for (int c = 0; c < 16; c++) {
            if ((long) i + c >= row.length) return 100 + c;
            if (row[i + c] != now.wear[c]) return c;
        }
        return NOT_ANY;
    }

    public int image() {
        image = now.copy();
        return image.goers.size();
    }

    public int undo() {
        if (image == null) return STATE;
        now = image.copy();
        return now.goers.size();
    }

    public int act(int goer, int act, int x) {
        trail = new ArrayList<>();
        Goer g = g(goer);
        if (g == null || act < 0 || act > 2) return 0;
        g.trail = trail;
        return act == 0 ? g.steps(x) : act == 1 ? g.turns(x) : g.tells(x);
    }

    public int trace(int i) {
        return i >= 0 && i < trail.size() && i < 20 ? trail.get(i) : NONE;
    }

    public int taken(int goer, int k) {
        if (k < 0 || k > 6) return BAD;
        if (g(goer) == null) return NOTHING;
        return KINDS[k].isInstance(g(goer)) ? g(goer).kind : CAST;
    }

    public int count(int what) {
        List<ToLongFunction<Oracle>> counts = List.of(o -> o.now.goers.size(), o -> o.rooms.size(),
            o -> o.now.seen.size(), o -> o.now.plan.size(), o -> o.now.book.size(), o -> o.text.length(),
            o -> o.trail.size());
        return what < 0 || what > 6 ? BAD : (int) counts.get(what).applyAsLong(this);
    }

    private static final int NOTHING = -11, CAST = -12, PLACE = -13, SIZE = -14;

    public int tape(int tape, int sort, int n) {
        if (tape < 0 || tape > 5) return NONE;
        if (sort == -1) {
            tapes[tape] = null;
            return 1;
        }
        if (sort < 0 || sort > 4 || n > 60) return BAD;
        if (n < 0) return SIZE;
        Class<?>[] sorts = {byte.class, short.class, int.class, long.class, boolean.class};
        tapes[tape] = java.lang.reflect.Array.newInstance(sorts[sort], n);
        return 1;
    }

    public int item(int tape, int i, long v) {
        if (tape < 0 || tape > 5) return NONE;
        Object t = tapes[tape];
        if (t == null) return NOTHING;
        if (i < 0 || i >= java.lang.reflect.Array.getLength(t)) return PLACE;
        if (t instanceof byte[]) ((byte[]) t)[i] = (byte) v;
        if (t instanceof short[]) ((short[]) t)[i] = (short) v;
        if (t instanceof int[]) ((int[]) t)[i] = (int) v;
        if (t instanceof long[]) ((long[]) t)[i] = v;
        if (t instanceof boolean[]) ((boolean[]) t)[i] = v != 0;
        return 1;
    }

    public long read(int tape, int i) {
        if (tape < 0 || tape > 5 || tapes[tape] == null) return NO;
        Object t = tapes[tape];
        if (i < 0 || i >= java.lang.reflect.Array.getLength(t)) return NO;
        return t instanceof boolean[] ? ((boolean[]) t)[i] ? 1 : 0 : ((Number) java.lang.reflect.Array.get(t, i)).longValue();
    }

    public int shift(int tape, int i, int other, int j, int n) {
        if (tape < 0 || tape > 5 || other < 0 || other > 5) return NONE;
        Object a = tapes[tape];
        Object b = tapes[other];
        if (a == null || b == null) return NOTHING;
        if (a.getClass() != b.getClass()) return CAST;
        try {
            System.arraycopy(a, i, b, j, n);
        } catch (IndexOutOfBoundsException e) {
            return PLACE;
        }
        return n;
    }
}
