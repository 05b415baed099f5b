import java.lang.reflect.Method;
import java.lang.reflect.Modifier;
import java.util.ArrayList;
import java.util.Arrays;
import java.util.Comparator;
import java.util.List;
import java.util.Random;

/** Long runs of calls, the same ones each time, on the class and on the Oracle: all answers must agree. */
public final class RandomRuns {
    private static final int CALLS = 512;

    private final Random random;
    private final CarpetReasons tested = new CarpetReasons();
    private final Oracle oracle = new Oracle();
    private final List<String> calls = new ArrayList<>();
    private boolean wrong;

    private RandomRuns(long seed) {
        random = new Random(seed);
    }

    public static void main(String[] args) throws Exception {
        int runs = args.length > 0 ? Integer.parseInt(args[0]) : 150;
        Watch.start(120 + 2 * runs);
        long first = args.length > 1 ? Long.parseLong(args[1]) : 1;
        int failed = 0;
        long answers = 0;
        for (long seed = first; seed < first + runs; seed++) {
            RandomRuns run = new RandomRuns(seed);
            run.go();
            answers += run.calls.size();
            if (run.wrong) {
                failed++;
                System.out.println("seed " + seed + ":\n  " + String.join("\n  ", run.calls));
                if (failed == 3) break;
            }
        }
        System.out.println(runs + " runs, " + answers + " answers, " + failed + " runs wrong");
        if (failed > 0) System.exit(1);
    }

    private static final List<Method> METHODS = methods();

    private static List<Method> methods() {
        List<Method> all = new ArrayList<>();
        for (Method m : CarpetReasons.class.getDeclaredMethods()) if (Modifier.isPublic(m.getModifiers())) all.add(m);
        all.sort(Comparator.comparing(Method::getName));
        return all;
    }

    private void go() throws Exception {
        if (random.nextInt(12) == 0) growOld();
        int goers = random.nextInt(7);
        for (int k = 0; k < goers; k++) call("goer");
        if (random.nextInt(5) > 0) feedRoom();
        while (calls.size() < CALLS && !wrong) {
            int dice = random.nextInt(100);
            if (dice < 3) feedRoom();
            else if (dice < 6) seeWhatComes();
            else if (dice < 8) askRealPrint();
            else if (dice < 10) bookWhatIs();
            else if (dice < 12) tellWearByTape();
            else if (dice < 13) fillAndShiftTapes();
            else if (dice < 14) planAndLookAtEnds();
            else if (dice < 15) undoWhatIsDone();
            else call(METHODS.get(random.nextInt(METHODS.size())).getName());
        }
    }

    /** Brings the day close to the last one. */
    private void growOld() throws Exception {
        for (int k = 0; k < 166; k++) call("pass", 60);
        call("pass", 20 + random.nextInt(20));
    }

    private void call(String name) throws Exception {
        Method m = METHODS.stream().filter(x -> x.getName().equals(name)).findFirst().get();
        // Much that changes all would leave little to reason about.
        boolean rare = List.of("undo", "tape", "pass", "image").contains(name);
        if (rare && random.nextInt(3) > 0) return;
        boolean wild = random.nextInt(30) == 0;
        call(name, wild ? wildArguments(m.getParameterTypes()) : arguments(name, m.getParameterTypes()));
    }

    private void call(String name, Object... args) throws Exception {
        if (calls.size() >= CALLS || wrong) return;
        Method m = METHODS.stream().filter(x -> x.getName().equals(name)).findFirst().get();
        Object got = m.invoke(tested, args);
        Object due = Oracle.class.getMethod(name, m.getParameterTypes()).invoke(oracle, args);
        String told = name + Arrays.toString(args) + " = " + due;
        calls.add(told);
        if (!got.equals(due)) {
            wrong = true;
            calls.add("but it answered " + got);
        }
    }

    /** Mostly what there is, at times its edges, at times anything. */
    private int near(int least, int most) {
        switch (random.nextInt(40)) {
            case 0: return least - 1;
            case 1: return most + 1;
            case 2: return random.nextBoolean() ? least : most;
            case 3:
                int[] far = {Integer.MIN_VALUE, Integer.MAX_VALUE, -1, -2, 0, 100, 65536, Integer.MIN_VALUE + 1};
                return random.nextInt(3) == 0 ? far[random.nextInt(far.length)] : least;
            default: return least + random.nextInt(most - least + 1);
        }
    }

    /** Numbers that stand at an edge of something, wherever they are put. */
    private Object[] wildArguments(Class<?>[] types) {
        int[] edges = {Integer.MIN_VALUE, Integer.MAX_VALUE, Integer.MIN_VALUE + 1, -32, -16, -5, -2, -1, 0, 1, 2, 3, 4, 5, 6, 7, 8, 9, 10, 15, 16, 20,
            21, 25, 26, 30, 31, 32, 45, 46, 50, 59, 60, 61, 65, 66, 99, 100, 127, 128, 9999, 10000, 65535, 65536};
        Object[] all = new Object[types.length];
        for (int k = 0; k < types.length; k++) {
            int edge = edges[random.nextInt(edges.length)];
            if (types[k] == boolean.class) all[k] = random.nextBoolean();
            else if (types[k] == long.class) all[k] = random.nextBoolean() ? (long) edge : Long.MIN_VALUE + edge;
            else all[k] = edge;
        }
        return all;
    }

    private int aGoer() {
        int goers = oracle.count(0);
        return near(0, goers > 0 && random.nextInt(10) > 0 ? goers - 1 : 5);
    }

    private Object[] arguments(String name, Class<?>[] types) {
        switch (name) {
            case "goer": return new Object[] {near(0, 6), near(0, 9), near(0, 15), near(0, 15)};
            case "of": return new Object[] {aGoer(), anOf()};
            case "set": return new Object[] {near(0, 15), random.nextInt(8) == 0 ? near(9980, 9999) : near(0, 60)};
            case "move": return new Object[] {aGoer(), near(0, 1), near(0, 15)};
            case "away": return new Object[] {aGoer(), random.nextInt(3) == 0};
            case "stand": return new Object[] {near(0, 15), random.nextInt(3) == 0};
            case "row": return new Object[] {aGoer(), near(0, 3), near(0, 9)};
            case "feed": return new Object[] {near(0, 127)};
            case "told": return new Object[] {random.nextInt(2) == 0 ? near(0, 6) : near(10, 25)};
            case "pass": return new Object[] {random.nextInt(9) == 0 ? near(0, 60) : near(0, 3)};
            case "on": return new Object[] {near(0, 60), random.nextInt(2) == 0 ? near(0, 1) : near(10, 25)};
            case "worn": return new Object[] {near(0, 15)};
            case "meet": return new Object[] {aGoer(), aGoer()};
            case "who": return new Object[] {near(0, 65535), near(1, 20), near(0, 1)};
            case "best": return new Object[] {near(0, 1)};
            case "see": return new Object[] {near(0, 15), near(0, 9), near(0, 20)};
            case "starts": return new Object[] {aGoer()};
            case "can": return new Object[] {aGoer(), near(0, 1)};
            case "odds": return new Object[] {near(0, 15), near(0, 60), near(0, 1)};
            case "mean": return new Object[] {near(0, 60), near(0, 1)};
            case "plan": return aPlanRow();
            case "ends": return new Object[] {near(0, 1)};
            case "book": return new Object[] {near(0, 15), near(0, 9999)};
            case "judge": return new Object[] {near(0, 5), near(0, 5)};
            case "act": return new Object[] {aGoer(), near(0, 2), random.nextBoolean() ? near(-9, 9) : random.nextInt()};
            case "trace": return new Object[] {near(0, 12)};
            case "taken": return new Object[] {aGoer(), near(0, 6)};
            case "count": return new Object[] {near(0, 6)};
            case "tape": return new Object[] {near(0, 5), near(0, 4), random.nextInt(5) == 0 ? near(0, 60) : near(0, 9)};
            case "item": return new Object[] {near(0, 5), near(0, 5), random.nextBoolean() ? random.nextLong() : near(-2, 300)};
            case "read": return new Object[] {near(0, 5), near(0, 5)};
            case "shift": return new Object[] {near(0, 5), near(0, 3), near(0, 5), near(0, 3), near(0, 4)};
            default: return new Object[types.length];
        }
    }

    private int anOf() {
        int[] firsts = {10, 30, 50};
        int group = random.nextInt(4);
        return group == 3 ? near(0, 5) : near(firsts[group], firsts[group] + 15);
    }

    private Object[] aPlanRow() {
        if (random.nextInt(20) == 0) return new Object[] {-1, near(0, 3)};
        int what = near(0, 3);
        return new Object[] {what, what == 1 ? aGoer() : near(0, 15)};
    }

    // ---- calls that belong together

    private void feedRoom() throws Exception {
        String room = aRoom();
        if (oracle.count(5) > 0 && random.nextBoolean()) call("room");
        for (char c : room.toCharArray()) call("feed", (int) c);
        call("room");
    }

    private void seeWhatComes() throws Exception {
        if (random.nextInt(3) == 0) call("see", -1, 0, 0);
        Oracle.World w = oracle.now.copy();
        if (!w.goers.isEmpty()) {
            Oracle.Goer g = w.goers.get(random.nextInt(w.goers.size()));
            int how = random.nextInt(4);
            if (how == 0) g.from = random.nextInt(16);
            if (how == 1) g.v = random.nextInt(10);
            if (how == 2) for (Oracle.Goer other : w.goers) other.away = other != g;
        }
        int seen = 1 + random.nextInt(3);
        for (int k = 0; k < seen; k++) {
            int cell = random.nextInt(16);
            int n = random.nextInt(21);
            call("see", cell, (int) (w.behind(n).wear[cell] - w.wear[cell]), n);
        }
        call("sole");
        for (int goer = 0; goer < w.goers.size(); goer++) {
            call("starts", goer);
            call("can", goer, random.nextInt(2));
        }
    }

    private void askRealPrint() throws Exception {
        int n = 1 + random.nextInt(20);
        int print = oracle.now.printOf(random.nextInt(64), n);
        call("who", print, n, 0);
        call("who", print, n, 1);
    }

    private void bookWhatIs() throws Exception {
        if (random.nextBoolean()) call("book", -1, near(0, 9));
        for (int k = 0; k < 3; k++) {
            int cell = random.nextInt(16);
            call("book", cell, (int) oracle.now.wear[cell]);
        }
        call("looked");
    }

    private void tellWearByTape() throws Exception {
        int tape = random.nextInt(6);
        int place = random.nextInt(4);
        int told = random.nextInt(18);
        call("tape", tape, 1, place + told);
        for (int c = 0; c < 16; c++) call("item", tape, place + c, oracle.now.wear[c]);
        if (random.nextBoolean()) call("item", tape, place + random.nextInt(16), (long) random.nextInt(99));
        call("judge", tape, place);
    }

    private void fillAndShiftTapes() throws Exception {
        int one = random.nextInt(6);
        int other = random.nextInt(6);
        int sort = random.nextInt(5);
        call("tape", one, sort, 6);
        call("tape", other, random.nextInt(9) == 0 ? random.nextInt(5) : sort, 3 + random.nextInt(4));
        for (int i = 0; i < 6; i++) call("item", one, i, random.nextBoolean() ? random.nextLong() : random.nextLong() << 32);
        call("shift", one, random.nextInt(3), other, random.nextInt(3), random.nextInt(5));
        call("shift", other, random.nextInt(3), one, random.nextInt(3), random.nextInt(4));
        call("shift", one, random.nextInt(3), one, random.nextInt(3), random.nextInt(5));
        for (int i = 0; i < 6; i++) call("read", random.nextBoolean() ? one : other, i);
        if (random.nextBoolean()) call("tape", one, -1, random.nextInt());
    }

    private void planAndLookAtEnds() throws Exception {
        if (random.nextBoolean()) call("plan", -1, near(0, 3));
        int cell = random.nextInt(16);
        for (int k = 0; k < 6; k++) {
            if (random.nextInt(3) == 0) call("plan", 2 + random.nextInt(2), cell);
            else call("plan", aPlanRow());
            if (random.nextBoolean()) call("ends", near(0, 1));
        }
        call("ends", 0);
    }

    private void undoWhatIsDone() throws Exception {
        if (random.nextBoolean()) call("image");
        for (int k = 0; k < 5; k++) {
            if (random.nextInt(3) == 0) call("goer");
            String[] changes = {"set", "move", "away", "stand", "see", "plan", "book", "pass"};
            call(changes[random.nextInt(changes.length)]);
            int goers = oracle.count(0);
            if (goers > 0) call("row", goers - 1, random.nextInt(4), random.nextInt(10));
        }
        call("undo");
        if (random.nextBoolean()) call("goer", 6, 0, 3, 3);
        for (int k = 0; k < 6; k++) call("of", aGoer(), anOf());
        for (int what = 3; what < 6; what++) call("told", what);
        call("sole");
        call("ends", 0);
        call("looked");
    }

    // ---- texts of rooms

    private String aRoom() {
        StringBuilder text = new StringBuilder();
        int clauses = random.nextInt(9) == 0 ? 9 + random.nextInt(3) : 1 + random.nextInt(4);
        for (int k = 0; k < clauses; k++) {
            if (k > 0) text.append(';');
            if (clauses > 8 || random.nextInt(4) == 0) text.append("bald ").append(random.nextInt(60));
            else text.append(random.nextBoolean() ? "soft " : "hard ").append(random.nextInt(random.nextInt(4) == 0 ? 99 : 4))
                .append(' ').append(anE(0));
        }
        if (random.nextInt(4) == 0) spoil(text);
        if (text.length() > 100 && random.nextInt(3) > 0) return "bald " + random.nextInt(40);
        return text.toString();
    }

    private void spoil(StringBuilder text) {
        String signs = "();&|! 0189cgkrvxbshald<=>";
        int at = random.nextInt(text.length());
        char sign = signs.charAt(random.nextInt(signs.length()));
        switch (random.nextInt(3)) {
            case 0: text.setCharAt(at, sign); break;
            case 1: text.insert(at, sign); break;
            default: text.setLength(at);
        }
    }

    private String anE(int depth) {
        StringBuilder e = new StringBuilder(anF(depth));
        while (random.nextInt(3) == 0) e.append(random.nextBoolean() ? '|' : '&').append(anF(depth));
        return e.toString();
    }

    private String anF(int depth) {
        int dice = random.nextInt(depth > 4 ? 4 : 8);
        if (dice == 4) return "!" + anF(depth + 1);
        if (dice > 5) return "(" + anE(depth + 1) + ")";
        char letter = "crxgkv".charAt(random.nextInt(6));
        int n = letter == 'c' ? random.nextInt(17) : random.nextInt(6);
        String number = random.nextInt(9) == 0 ? "0" + n % 10 : "" + n;
        return "" + letter + "<=>".charAt(random.nextInt(3)) + number;
    }
}
