import java.util.ArrayList;
import java.util.List;
import java.util.function.Supplier;

/**
 * "What is answered so changes nothing; what is asked changes nothing." A call is made on one of two objects that are
 * alike, and all that can be seen of both is compared: rows, texts and the image that are there behind it, too.
 */
public final class NothingChanges extends Sentences {
    private static final int MOST_AT_ONCE = 100;

    private static final List<List<String>> LOOKS = looks();

    public static void main(String[] args) {
        refusedGoersAndCarpet();
        refusedDaysAndReasons();
        refusedRowsAndTapes();
        refusedWhenFull();
        asked();
        askedOfDays();
        onlyOneThing();
        end();
    }

    // ---- what is looked at

    private static List<List<String>> looks() {
        List<String> askedOf = new ArrayList<>();
        for (int what = 0; what < 7; what++) add(askedOf, "told(" + what + ") count(" + what + ")");
        for (int c = 0; c < 16; c++) add(askedOf, "told(" + (10 + c) + ") on(9, " + (10 + c) + ")");
        for (int g = 0; g < 6; g++) {
            for (int what = 0; what < 21; what++) add(askedOf, "of(" + g + ", " + what + ")");
            for (int c = 0; c < 16; c++) add(askedOf, "of(" + g + ", " + (30 + c) + ") of(" + g + ", " + (50 + c) + ")");
            add(askedOf, "starts(" + g + ") can(" + g + ", 0) can(" + g + ", 1)");
        }
        add(askedOf, "ends(0) ends(1) looked() sole() best(0) best(1) who(15, 3, 0) who(15, 3, 1) odds(0, 9, 0) mean(4, 0)");
        for (int i = 0; i < 21; i++) add(askedOf, "trace(" + i + ")");
        for (int t = 0; t < 6; t++) add(askedOf, tapeLooks(t));

        List<List<String>> all = new ArrayList<>();
        for (int k = 0; k < askedOf.size(); k += MOST_AT_ONCE) all.add(askedOf.subList(k, Math.min(k + MOST_AT_ONCE, askedOf.size())));
        all.add(textLooks());
        all.add(Run.each("row(0, 0, 0) row(1, 0, 0) row(1, 1, 0) row(1, 2, 0) row(1, 3, 0) row(2, 0, 0) row(3, 0, 0) row(4, 0, 0) row(5, 0, 0)"));
        all.add(imageLooks());
        return all;
    }

    private static String tapeLooks(int t) {
        StringBuilder some = new StringBuilder("judge(" + t + ", 0)");
        for (int i : new int[] {0, 1, 2, 3, 4, 15, 16, 58, 59}) some.append(" read(").append(t).append(", ").append(i).append(")");
        return some.toString();
    }

    /** What THE TEXT is shows when it becomes a room. */
    private static List<String> textLooks() {
        List<String> all = Run.each("count(5) feed(49) room() count(1) count(5) told(1)");
        for (int c = 0; c < 16; c++) add(all, "of(0, " + (50 + c) + ")");
        return all;
    }

    /** What the image is shows when all becomes it again. */
    private static List<String> imageLooks() {
        List<String> all = Run.each("undo() ends(0) ends(1) looked() sole() starts(0)");
        for (int what = 0; what < 7; what++) add(all, "told(" + what + ") count(" + what + ") of(1, " + what + ") of(2, " + what + ")");
        for (int c = 0; c < 16; c++) add(all, "told(" + (10 + c) + ") of(0, " + (50 + c) + ")");
        add(all, "row(1, 0, 0) row(1, 1, 0) row(1, 2, 0) row(1, 3, 0)");
        return all;
    }

    private static void add(List<String> all, String some) {
        all.addAll(Run.each(some));
    }

    // ---- what it is looked at on

    /** Three goers; the older of two rooms holds, a text has begun, an image is there that is otherwise than all is. */
    private static Run some() {
        Run x = new Run("goer(0, 1, 0, 3) goer(6, 2, 4, 7) goer(4, 5, 8, 9) row(1, 0, 3) row(1, 1, 1) row(1, 2, 9)").room("bald 9;soft 2 c=0&g=0");
        x.make("set(5, 40) set(10, 12) stand(6, true) pass(2) see(8, 4, 2) see(12, 0, 3) plan(0, 0) plan(3, 5) plan(2, 5) plan(1, 0)");
        x.make("book(12, 0) book(10, 12) book(13, 0) image()").room("bald 12;hard 1 x=3").make("undo() away(0, true) set(2, 7) stand(9, false) pass(1)");
        x.make("book(14, 0) plan(0, 1) see(15, 0, 9)").text("soft 7 r=2&c<1");
        x.make("tape(0, 1, 20) item(0, 2, 7) item(0, 5, 40) tape(1, 3, 60) item(1, 59, 9) tape(2, 0, 3) item(2, 2, 5) tape(4, 1, 4) act(1, 2, 3)");
        return x;
    }

    /** All there is place for, on the last day but 38. */
    private static Run full() {
        Run x = new Run("goer(0, 1, 0, 3) goer(6, 2, 4, 7) goer(4, 5, 8, 9) goer(3, 0, 1, 1) goer(1, 0, 2, 2) goer(5, 9, 15, 15) row(1, 3, 8)");
        for (int k = 0; k < 6; k++) x.room("bald " + k);
        x.make("set(6, 9999) image()").times(166, "pass(60)").times(5, "see(6, 0, 7)").times(10, "plan(0, 0)").times(8, "book(6, 9999)");
        x.text("soft 1 c=0" + repeat("|c=1", 22) + "&c").make("act(1, 2, 5) tape(0, 1, 16)");
        return x;
    }

    private static final List<Long> OF_SOME = look(NothingChanges::some, "told(0)");
    private static final List<Long> OF_FULL = look(NothingChanges::full, "told(0)");

    private static List<Long> look(Supplier<Run> scene, String call) {
        List<Long> answers = new ArrayList<>();
        for (List<String> some : LOOKS) {
            Run x = scene.get();
            x.ask(call);
            for (String one : some) answers.add(x.ask(one));
        }
        return answers;
    }

    private static void dueLike(List<Long> before, Supplier<Run> scene, String call) {
        List<Long> behind = look(scene, call);
        int k = 0;
        for (List<String> some : LOOKS) {
            for (String one : some) {
                due("behind " + call + ", which is to change nothing, " + one, behind.get(k), before.get(k));
                k++;
            }
        }
    }

    // ---- tests

    /** These calls are refused so, and change nothing. */
    private static void refused(String name, long answer, String calls) {
        sentence("What is answered so changes nothing: " + name + ": " + answer, () -> {
            for (String call : Run.each(calls)) {
                some().due(call, answer);
                dueLike(OF_SOME, NothingChanges::some, call);
            }
        });
    }

    private static void refusedGoersAndCarpet() {
        refused("goer", NONE, "goer(-1, 0, 0, 0) goer(7, 0, 0, 0) goer(0, 0, 16, 0) goer(0, 0, 0, -1)");
        refused("goer", BAD, "goer(6, 10, 5, 5) goer(6, -1, 5, 5)");
        refused("of", NONE, "of(3, 0) of(-1, 0) of(0, 6) of(0, 26) of(0, 66)");
        refused("set", NONE, "set(-1, 5) set(16, 5)");
        refused("set", BAD, "set(0, -1) set(15, 10000)");
        refused("move", NONE, "move(3, 0, 5) move(-1, 0, 5) move(0, 2, 5) move(0, -1, 5) move(0, 0, 16) move(0, 1, -1)");
        refused("away", NONE, "away(3, true) away(-1, false) away(32, true) away(-32, false)");
        refused("stand", NONE, "stand(-1, true) stand(16, true) stand(38, false) stand(-26, false)");
        refused("row", NONE, "row(3, 0, 1) row(-1, 0, 1) row(1, 4, 1) row(1, -1, 1)");
        refused("row", BAD, "row(1, 0, 10) row(1, 0, -1)");
        refused("row", STATE, "row(0, 0, 5) row(2, 3, 0)");
        refused("feed", BAD, "feed(-1) feed(128)");
        refused("told", NONE, "told(-1) told(7) told(26)");
    }

    private static void refusedDaysAndReasons() {
        refused("pass", BAD, "pass(-1) pass(61)");
        refused("on", NONE, "on(5, 2) on(5, 26)");
        refused("on", BAD, "on(-1, 0) on(61, 1)");
        refused("worn", NONE, "worn(-1) worn(16)");
        refused("meet", NONE, "meet(0, 3) meet(-1, 0)");
        refused("meet", BAD, "meet(1, 1)");
        refused("who", NONE, "who(0, 1, 2) who(0, 1, -1)");
        refused("who", BAD, "who(-1, 1, 0) who(65536, 1, 0) who(0, 0, 0) who(0, 21, 1)");
        refused("best", NONE, "best(-1) best(2)");
        refused("see", NONE, "see(-2, 0, 0) see(16, 0, 0)");
        refused("see", BAD, "see(0, -1, 0) see(0, 10000, 0) see(0, 0, -1) see(0, 0, 21)");
        refused("starts", NONE, "starts(-1) starts(3)");
        refused("can", NONE, "can(-1, 0) can(3, 0) can(0, 2)");
        refused("odds", NO, "odds(16, 0, 0) odds(0, 61, 0) odds(0, 0, 2)");
        refused("mean", NO, "mean(61, 0) mean(0, 2)");
    }

    private static void refusedRowsAndTapes() {
        refused("plan", NONE, "plan(-2, 0) plan(4, 0) plan(1, 3) plan(1, -1) plan(2, 16) plan(3, -1)");
        refused("ends", NONE, "ends(-1) ends(2)");
        refused("book", NONE, "book(-2, 0) book(16, 0)");
        refused("book", BAD, "book(0, -1) book(0, 10000)");
        refused("judge", NONE, "judge(-1, 0) judge(6, 0)");
        refused("judge", CAST, "judge(1, 0) judge(2, -1)");
        refused("trace", NONE, "trace(-1) trace(12)");
        refused("taken", BAD, "taken(0, -1) taken(0, 7)");
        refused("taken", NOTHING, "taken(3, 0)");
        refused("taken", CAST, "taken(0, 1) taken(1, 2)");
        refused("count", BAD, "count(-1) count(7)");
        refused("tape", NONE, "tape(-1, 0, 1) tape(6, -1, 1)");
        refused("tape", BAD, "tape(0, 5, 1) tape(1, -2, 1) tape(2, 0, 61)");
        refused("tape", SIZE, "tape(0, 0, -1) tape(1, 3, MIN)");
        refused("item", NONE, "item(-1, 0, 1) item(6, 0, 1)");
        refused("item", NOTHING, "item(3, 0, 1) item(5, 0, 1)");
        refused("item", PLACE, "item(0, 20, 1) item(1, 60, 1) item(1, -1, 1) item(2, 3, 1)");
        refused("read", NO, "read(6, 0) read(3, 0) read(2, 3)");
        refused("shift", NONE, "shift(6, 0, 0, 0, 1) shift(0, 0, -1, 0, 1)");
        refused("shift", NOTHING, "shift(3, 0, 0, 0, 1) shift(0, 0, 3, 0, 1)");
        refused("shift", CAST, "shift(0, 0, 2, 0, 1) shift(1, 0, 0, 0, 1)");
        refused("shift", PLACE, "shift(0, 2, 4, 0, 5) shift(0, 2, 4, 4, 1) shift(0, 19, 4, 0, 2) shift(0, -1, 4, 0, 1) shift(4, 0, 0, 0, -1)");
    }

    /** These calls are refused so where all is full, and change nothing. */
    private static void refusedFull(String name, long answer, String calls) {
        sentence("What is answered so changes nothing, where all is full: " + name + ": " + answer, () -> {
            for (String call : Run.each(calls)) {
                full().due(call, answer);
                dueLike(OF_FULL, NothingChanges::full, call);
            }
        });
    }

    private static void refusedWhenFull() {
        refusedFull("goer", FULL, "goer(0, 0, 0, 0) goer(6, 9, 15, 15)");
        refusedFull("feed", FULL, "feed(98) feed(0) feed(49)");
        refusedFull("room", FULL, "room()");
        refusedFull("pass", STATE, "pass(40) pass(60)");
        refusedFull("see", FULL, "see(0, 0, 0) see(6, 9999, 20)");
        refusedFull("plan", FULL, "plan(0, 0) plan(1, 5) plan(2, 6) plan(3, 0)");
        refusedFull("book", FULL, "book(0, 0) book(6, 1)");
        sentence("What is answered so changes nothing: undo(), where there is no image", () -> {
            Supplier<Run> scene = () -> new Run("goer(0, 1, 0, 3) goer(6, 2, 4, 7) row(1, 0, 4) set(5, 40) see(0, 1, 1) plan(0, 0) book(5, 40) act(1, 2, 3)").text("bald ");
            scene.get().due("undo()", STATE);
            dueLike(look(scene, "told(0)"), scene, "undo()");
        });
    }

    /** These calls change nothing. */
    private static void asked(String name, String calls) {
        sentence("What is asked changes nothing: " + name, () -> {
            for (String call : Run.each(calls)) {
                dueLike(OF_SOME, NothingChanges::some, call);
                dueLike(OF_FULL, NothingChanges::full, call);
            }
        });
    }

    private static void asked() {
        asked("of", "of(0, 0) of(0, 5) of(1, 10) of(0, 25) of(2, 30) of(1, 65)");
        asked("told", "told(1) told(3) told(4) told(5) told(6) told(25)");
        asked("meet", "meet(0, 1) meet(2, 0)");
        asked("who", "who(0, 1, 0) who(15, 20, 0) who(65535, 20, 1)");
        asked("best", "best(0) best(1)");
        asked("starts", "starts(0) starts(1) starts(2)");
        asked("can", "can(0, 0) can(1, 1) can(2, 0)");
        asked("sole", "sole()");
        asked("looked", "looked()");
        asked("judge", "judge(0, 0) judge(0, 5) judge(3, 0)");
        asked("trace", "trace(0) trace(11)");
        asked("taken", "taken(0, 0) taken(1, 3)");
        asked("count", "count(0) count(6)");
        asked("read", "read(0, 0) read(1, 59)");
    }

    private static void askedOfDays() {
        asked("on", "on(0, 0) on(60, 0) on(60, 1) on(60, 10) on(1, 25)");
        asked("worn", "worn(0) worn(5) worn(15)");
        asked("odds", "odds(0, 60, 0) odds(0, 60, 1) odds(15, 0, 0)");
        asked("mean", "mean(60, 0) mean(0, 1)");
        asked("ends", "ends(0) ends(1)");
    }

    /** Calls that change just one thing; where that is as it was, nothing is changed. */
    private static void onlyOneThing() {
        sentence("What becomes what it was changes nothing", () -> {
            String calls = "set(5, 40) move(0, 0, 0) move(0, 1, 3) away(0, true) away(1, false) stand(6, true) stand(0, false) row(1, 0, 3) pass(0)"
                + " item(0, 2, 7) shift(0, 0, 0, 0, 20) shift(0, 0, 4, 0, 0) tape(3, -1, 9) act(1, 2, 3)";
            for (String call : Run.each(calls)) dueLike(OF_SOME, NothingChanges::some, call);
        });
    }
}
