import java.lang.reflect.Constructor;
import java.lang.reflect.Field;
import java.lang.reflect.Method;
import java.lang.reflect.Modifier;
import java.nio.charset.StandardCharsets;
import java.nio.file.Files;
import java.nio.file.Path;
import java.util.HashMap;
import java.util.HashSet;
import java.util.Map;
import java.util.Set;
import java.util.TreeSet;
import java.util.regex.Matcher;
import java.util.regex.Pattern;

/** The face of the class, and those rules of ../shared/LANGUAGE.md that a program can see. */
public final class LanguageRules {
    private static final Path SOURCE = Path.of("src/main/java/CarpetReasons.java");
    private static final String FACE = "int goer(int,int,int,int) int of(int,int) int set(int,int) int move(int,int,int) "
        + "int away(int,boolean) int stand(int,boolean) int row(int,int,int) int feed(int) int room() int told(int) "
        + "int pass(int) int on(int,int) int worn(int) int meet(int,int) int who(int,int,int) int best(int) "
        + "int see(int,int,int) int starts(int) int can(int,int) int sole() long odds(int,int,int) long mean(int,int) "
        + "int plan(int,int) int ends(int) int book(int,int) int looked() int judge(int,int) int image() int undo() "
        + "int act(int,int,int) int trace(int) int taken(int,int) int count(int) int tape(int,int,int) "
        + "int item(int,int,long) long read(int,int) int shift(int,int,int,int,int)";
    private static final Set<String> CONSTANTS = Set.of("NONE", "BAD", "STATE", "FULL", "NO");

    private static int wrong;

    private static void rule(String what, boolean holds) {
        if (holds) return;
        wrong++;
        System.out.println("LANGUAGE.md: " + what);
    }

    public static void main(String[] args) throws Exception {
        face();
        Set<String> names = new TreeSet<>();
        for (Method m : CarpetReasons.class.getDeclaredMethods()) if (Modifier.isPublic(m.getModifiers())) names.add(m.getName());
        classesInside(names);
        source();
        System.out.println(wrong + " rules broken");
        if (wrong > 0) System.exit(1);
    }

    private static void face() {
        Set<String> got = new TreeSet<>();
        for (Method m : CarpetReasons.class.getDeclaredMethods()) {
            if (!Modifier.isPrivate(m.getModifiers())) {
                rule("a public method that is static: " + m, !Modifier.isStatic(m.getModifiers()));
                String types = m.toString().replaceAll(".*\\(", "(");
                got.add(m.getReturnType() + " " + m.getName() + types);
            }
        }
        Set<String> due = new TreeSet<>();
        Matcher one = Pattern.compile("(int|long) \\w+\\([^)]*\\)").matcher(FACE);
        while (one.find()) due.add(one.group());
        rule("the face is " + got, got.equals(due));
        for (Field f : CarpetReasons.class.getDeclaredFields()) {
            boolean isConstant = CONSTANTS.contains(f.getName());
            rule("field " + f, isConstant == Modifier.isPublic(f.getModifiers()) && (isConstant || Modifier.isPrivate(f.getModifiers())));
        }
        Constructor<?>[] made = CarpetReasons.class.getDeclaredConstructors();
        rule("one public constructor", made.length == 1 && Modifier.isPublic(made[0].getModifiers()) && made[0].getParameterCount() == 0);
        rule("a final class", Modifier.isFinal(CarpetReasons.class.getModifiers()));
    }

    private static void classesInside(Set<String> names) {
        Class<?>[] inside = CarpetReasons.class.getDeclaredClasses();
        rule("twelve classes at most", inside.length + 1 <= 12);
        for (Class<?> c : inside) {
            rule(c + " is static and not public", Modifier.isStatic(c.getModifiers()) && !Modifier.isPublic(c.getModifiers())
                && !Modifier.isProtected(c.getModifiers()));
            int fields = 0;
            for (Field f : c.getDeclaredFields()) {
                if (!Modifier.isStatic(f.getModifiers())) fields++;
                rule("static and not final: " + f, !Modifier.isStatic(f.getModifiers()) || Modifier.isFinal(f.getModifiers()));
            }
            rule("twenty fields at most in " + c, fields <= 20);
            for (Method m : c.getDeclaredMethods()) {
                rule("the name of a public one: " + m, !names.contains(m.getName()));
                rule("seven parameters at most: " + m, m.getParameterCount() <= 7);
            }
        }
        for (Method m : CarpetReasons.class.getDeclaredMethods()) {
            rule("the name of a public one: " + m, !Modifier.isPrivate(m.getModifiers()) || !names.contains(m.getName()));
        }
    }

    private static void source() throws Exception {
        String all = Files.readString(SOURCE, StandardCharsets.ISO_8859_1);
        for (char c : all.toCharArray()) {
            if (c != '\n' && (c < 32 || c > 126)) {
                rule("a sign that is not plain: " + (int) c, false);
                break;
            }
        }
        String code = all.replaceAll("'(?:\\\\.|[^'\\\\])'", "0").replaceAll("\"(?:\\\\.|[^\"\\\\])*\"", "TEXT")
            .replaceAll("(?s)/\\*.*?\\*/", "").replaceAll("//[^\n]*", "");
        String[] none = {"throw", "throws", "try", "catch", "finally", "synchronized", "assert", "import", "package",
            "instanceof", "Object", "System(?!\\.arraycopy)", "Math\\.\\w*Exact", "equals", "hashCode", "toString",
            "Integer", "Thread", "native", "volatile", "transient", "protected", "double", "float", "var"};
        for (String word : none) rule("the word " + word, !Pattern.compile("\\b" + word + "\\b").matcher(code).find());
        rule("no lambda, no method reference", !code.contains("->") && !code.contains("::"));
        rule("no text joined by +", !code.contains("+ TEXT") && !code.contains("TEXT +") && !code.contains("+= TEXT"));
        rule("no block of static initialisers", !Pattern.compile("\\bstatic\\s*\\{").matcher(code).find());
        Map<String, String> bodies = methodBodies(code);
        rule("methods are found, and those of the face among them", bodies.size() > 100 && bodies.containsKey("shift"));
        Set<String> isDeep = new HashSet<>();
        for (String name : bodies.keySet()) {
            String body = bodies.get(name);
            rule("sixty lines at most: " + name, body.lines().count() <= 60);
            rule("no call makes an object: " + name, !Pattern.compile("\\bnew\\b").matcher(body).find());
            if (callsDeep(name, bodies, new HashSet<>()) > 8) isDeep.add(name);
        }
        rule("calls go eight deep at most: " + isDeep, isDeep.isEmpty());
    }

    /** For each name of a method what stands in it, if several have that name, in all of them; constructors left out. */
    private static Map<String, String> methodBodies(String code) {
        Map<String, String> bodies = new HashMap<>();
        String[] lines = code.split("\n");
        Pattern head = Pattern.compile("( +)(?:[\\w\\[\\]]+ )+([a-z]\\w*)\\(.*\\) \\{");
        for (int k = 0; k < lines.length; k++) {
            Matcher m = head.matcher(lines[k]);
            if (!m.matches() || lines[k].matches(" +(if|for|while|switch|else|return|do)\\b.*")) continue;
            StringBuilder body = new StringBuilder();
            int end = k + 1;
            while (end < lines.length && !lines[end].equals(m.group(1) + "}")) body.append(lines[end++]).append('\n');
            bodies.merge(m.group(2), body.toString(), String::concat);
        }
        return bodies;
    }

    /** How many calls stand open at most, those of recursion left out. */
    private static int callsDeep(String name, Map<String, String> bodies, Set<String> open) {
        int deepest = 0;
        open.add(name);
        Matcher called = Pattern.compile("\\b(\\w+)\\(").matcher(bodies.get(name));
        while (called.find()) {
            String other = called.group(1);
            if (bodies.containsKey(other) && !open.contains(other)) {
                deepest = Math.max(deepest, callsDeep(other, bodies, open));
            }
        }
        open.remove(name);
        return deepest + 1;
    }
}
