import java.lang.reflect.InvocationTargetException;
import java.lang.reflect.Method;
import java.util.ArrayList;
import java.util.HashMap;
import java.util.List;
import java.util.Map;
import java.util.regex.Matcher;
import java.util.regex.Pattern;

/** One object of the class, and calls of it told as texts such as "goer(0, 9, 0, 15) set(3, 9999)". */
final class Run {
    private static final int MOST_CALLS = 512;
    private static final Pattern CALL = Pattern.compile("(\\w+)\\(([^()]*)\\)");
    private static final Map<String, Method> METHODS = new HashMap<>();

    static {
        for (Method m : CarpetReasons.class.getMethods()) {
            if (m.getDeclaringClass() == CarpetReasons.class) METHODS.put(m.getName(), m);
        }
    }

    private final CarpetReasons carpet = new CarpetReasons();
    private int calls;

    Run(String... made) {
        for (String some : made) make(some);
    }

    /** Makes calls whose answers another test looks at. */
    Run make(String some) {
        for (String one : each(some)) ask(one);
        return this;
    }

    /** Makes a call so many times. */
    Run times(int n, String one) {
        for (int k = 0; k < n; k++) ask(one);
        return this;
    }

    /** Each of these calls is due to answer the same. */
    Run due(String some, long want) {
        for (String one : each(some)) Sentences.due(one, ask(one), want);
        return this;
    }

    /** A call that is made once for each of these numbers, which stand for the # in it, is due to answer the same. */
    Run dueForEach(String one, int[] numbers, long want) {
        for (int n : numbers) due(one.replace("#", "" + n), want);
        return this;
    }

    Run text(String text) {
        for (char c : text.toCharArray()) ask("feed(" + (int) c + ")");
        return this;
    }

    Run room(String text) {
        text(text);
        ask("room()");
        return this;
    }

    Run dueRoom(String text, long want) {
        text(text);
        Sentences.due("room() of '" + text + "'", ask("room()"), want);
        return this;
    }

    /** The cells, as bits, of which this call, with the cell and what stands ahead of it added, answers this. */
    int cellsWith(String call, int ahead, long answer) {
        int bits = 0;
        for (int c = 0; c < 16; c++) if (ask(call + (ahead + c) + ")") == answer) bits |= 1 << c;
        return bits;
    }

    /** Of a goer the number of cells of his way, each of them, and that there are no more. */
    Run dueWay(int goer, int... way) {
        due("of(" + goer + ", 5)", way.length);
        for (int k = 0; k < way.length; k++) due("of(" + goer + ", " + (10 + k) + ")", way[k]);
        if (way.length < 16) due("of(" + goer + ", " + (10 + way.length) + ")", Sentences.NOT_ANY);
        return this;
    }

    /** Treads of a goer on all cells: on those named (cell, treads, ..) so many, on others none. */
    Run dueTreads(int goer, int... cellsAndTreads) {
        return dueOnCells("of(" + goer + ", ", 30, cellsAndTreads);
    }

    /** Wear of all cells: of those named (cell, wear, ..) so much, of others none. */
    Run dueWear(int... cellsAndWear) {
        return dueOnCells("told(", 10, cellsAndWear);
    }

    private Run dueOnCells(String call, int first, int... cellsAndNumbers) {
        for (int c = 0; c < 16; c++) {
            int want = 0;
            for (int k = 0; k < cellsAndNumbers.length; k += 2) if (cellsAndNumbers[k] == c) want = cellsAndNumbers[k + 1];
            due(call + (first + c) + ")", want);
        }
        return this;
    }

    static List<String> each(String some) {
        List<String> all = new ArrayList<>();
        Matcher m = CALL.matcher(some);
        int end = 0;
        while (m.find()) {
            if (!some.substring(end, m.start()).isBlank()) throw new IllegalArgumentException(some);
            all.add(m.group());
            end = m.end();
        }
        if (all.isEmpty() || !some.substring(end).isBlank()) throw new IllegalArgumentException(some);
        return all;
    }

    long ask(String one) {
        Matcher m = CALL.matcher(one);
        if (!m.matches()) throw new IllegalArgumentException(one);
        if (++calls > MOST_CALLS) throw new IllegalStateException("more than " + MOST_CALLS + " calls");
        Method method = METHODS.get(m.group(1));
        Class<?>[] types = method.getParameterTypes();
        String[] told = m.group(2).isBlank() ? new String[0] : m.group(2).split(",");
        if (told.length != types.length) throw new IllegalArgumentException(one);
        Object[] values = new Object[types.length];
        for (int k = 0; k < types.length; k++) values[k] = value(told[k].trim(), types[k]);
        try {
            return ((Number) method.invoke(carpet, values)).longValue();
        } catch (InvocationTargetException e) {
            throw new IllegalStateException(one + " threw " + e.getCause());
        } catch (IllegalAccessException e) {
            throw new IllegalStateException(e);
        }
    }

    private static Object value(String told, Class<?> type) {
        if (type == boolean.class) {
            if (!told.equals("true") && !told.equals("false")) throw new IllegalArgumentException(told);
            return told.equals("true");
        }
        if (type == long.class) {
            return told.equals("MIN") ? Long.MIN_VALUE : told.equals("MAX") ? Long.MAX_VALUE : Long.parseLong(told);
        }
        return told.equals("MIN") ? Integer.MIN_VALUE : told.equals("MAX") ? Integer.MAX_VALUE : Integer.parseInt(told);
    }
}
