import java.lang.management.ManagementFactory;
import java.lang.reflect.Field;
import java.lang.reflect.Method;
import java.lang.reflect.Modifier;
import java.nio.file.Files;
import java.nio.file.Path;
import java.util.ArrayList;
import java.util.Arrays;
import java.util.List;
import java.util.Map;
import java.util.Set;
import java.util.TreeMap;
import java.util.TreeSet;
import java.util.regex.Matcher;
import java.util.regex.Pattern;

/** The document's face, those rules of LANGUAGE.md that can be looked at from outside, and the room. */
public final class FaceAndRules {
    private static final Path SOURCE = Path.of("src/main/java/RopeDance.java");
    private static final Set<String> FACE = new TreeSet<>(List.of(
            "write 1", "wipe 0", "fault 0", "lay 0", "dancer 2", "place 2", "wound 1", "row 1", "dance 1", "put 2",
            "undo 0", "free 1", "reach 3", "meet 3", "ways 1", "plain 0", "comes 1", "behind 2", "see 3", "forget 0",
            "kinds 1", "look 2", "danced 1", "duel 1", "odds 3", "evening 3", "keep 0", "back 0", "count 1"));
    private static final Set<String> CONSTANTS = new TreeSet<>(List.of(
            "BAD", "NO", "FULL", "NONE", "WRONG", "NOTHING"));
    private static int wrong = 0;

    public static void main(String[] args) throws Exception {
        face();
        fields();
        names();
        words();
        lengths();
        kindsOfFields();
        library();
        depthOfCalls();
        room();
        System.out.println(wrong == 0 ? "face, rules and room are as told" : wrong + " faults");
        if (wrong != 0) {
            System.exit(1);
        }
    }

    private static void hold(boolean so, String what) {
        if (!so) {
            wrong++;
            System.out.println("not so: " + what);
        }
    }

    private static void face() {
        Class<?> c = RopeDance.class;
        hold(Modifier.isFinal(c.getModifiers()) && Modifier.isPublic(c.getModifiers()), "public and final");
        hold(c.getDeclaredConstructors().length == 1 && c.getConstructors().length == 1, "one public constructor");
        Set<String> found = new TreeSet<>();
        for (Method m : c.getDeclaredMethods()) {
            if (Modifier.isPublic(m.getModifiers())) {
                found.add(m.getName() + " " + m.getParameterCount());
                hold(m.getReturnType() == int.class, m + " answers an int");
                hold(Arrays.stream(m.getParameterTypes()).allMatch(t -> t == int.class), m + " takes ints");
            } else {
                hold(Modifier.isPrivate(m.getModifiers()), m + " is private");
            }
        }
        hold(found.equals(FACE), "the public methods are " + FACE + ", not " + found);
        for (Class<?> inside : c.getDeclaredClasses()) {
            int is = inside.getModifiers();
            hold(Modifier.isStatic(is), inside + " is static");
            hold(!Modifier.isPublic(is) && !Modifier.isProtected(is), inside + " is not seen from outside");
        }
        hold(c.getDeclaredClasses().length <= 12, "at most twelve classes");
    }

    private static void fields() {
        Set<String> found = new TreeSet<>();
        for (Field f : RopeDance.class.getDeclaredFields()) {
            if (Modifier.isPublic(f.getModifiers())) {
                found.add(f.getName());
            } else {
                hold(Modifier.isPrivate(f.getModifiers()), f + " is private");
            }
            hold(!Modifier.isStatic(f.getModifiers()) || Modifier.isFinal(f.getModifiers()), f + " is final");
        }
        hold(found.equals(CONSTANTS), "the constants are " + CONSTANTS + ", not " + found);
        for (Class<?> inside : RopeDance.class.getDeclaredClasses()) {
            for (Field f : inside.getDeclaredFields()) {
                hold(!Modifier.isStatic(f.getModifiers()) || Modifier.isFinal(f.getModifiers()), f + " is final");
            }
        }
    }

    private static void names() {
        Set<String> taken = new TreeSet<>();
        for (String f : FACE) {
            taken.add(f.substring(0, f.indexOf(' ')));
        }
        for (Method m : RopeDance.class.getDeclaredMethods()) {
            hold(Modifier.isPublic(m.getModifiers()) || !taken.contains(m.getName()), m + " has a name of its own");
        }
        for (Class<?> inside : RopeDance.class.getDeclaredClasses()) {
            for (Method m : inside.getDeclaredMethods()) {
                hold(!taken.contains(m.getName()), m + " has a name of its own");
                hold(m.getParameterCount() <= 7, m + " takes at most seven");
            }
        }
    }

    private static String bareSource() throws Exception {
        return Files.readString(SOURCE)
                .replaceAll("(?s)/\\*.*?\\*/", " ")
                .replaceAll("//[^\n]*", " ")
                .replaceAll("\"[^\"\n]*\"", "\"\"");
    }

    private static void words() throws Exception {
        String bare = bareSource();
        for (String word : List.of("throw", "throws", "try", "catch", "synchronized", "assert", "import", "package",
                "protected", "static \\{", "->", "::", "Exact\\(", "double", "float", "Thread", "Random", "System")) {
            Matcher m = Pattern.compile(word.matches("[A-Za-z]+") ? "\\b" + word + "\\b" : word).matcher(bare);
            hold(!m.find(), "no " + word + " in the program");
        }
        for (char c : Files.readString(SOURCE).toCharArray()) {
            hold(c < 128, "signs of ASCII alone");
        }
    }

    private static void lengths() throws Exception {
        int begun = 0;
        int depth = 0;
        List<String> lines = Files.readAllLines(SOURCE);
        for (int i = 0; i < lines.size(); i++) {
            String line = lines.get(i);
            if (line.matches("    (    )?[a-z].*\\(.*\\) \\{")) {
                begun = i;
                depth = line.length() - line.stripLeading().length();
            }
            if (line.equals(" ".repeat(depth) + "}")) {
                hold(i - begun <= 60, "the method at line " + (begun + 1) + " is short");
            }
            hold(line.length() <= 120, "line " + (i + 1) + " is short");
        }
    }

    /** Rules 3, 5 and 11: what fields may hold, and how many of them a class may have. */
    private static void kindsOfFields() {
        List<Class<?>> classes = new ArrayList<>(List.of(RopeDance.class.getDeclaredClasses()));
        classes.add(RopeDance.class);
        for (Class<?> c : classes) {
            int own = 0;
            for (Field f : c.getDeclaredFields()) {
                boolean constant = Modifier.isStatic(f.getModifiers());
                own += constant ? 0 : 1;
                Class<?> held = f.getType().isArray() ? f.getType().getComponentType() : f.getType();
                hold(constant ? f.getType() == int.class || f.getType() == String.class
                        : held.isPrimitive() || classes.contains(held), f + " is of a type that is told");
            }
            hold(own <= 20, c + " has at most twenty fields");
        }
    }

    /** Rule 4: nothing of the library but what the program is known to use, all of which is listed there. */
    private static void library() throws Exception {
        Set<String> known = Set.of("Math.min", "Math.max", "Math.abs", "Integer.bitCount");
        Matcher m = Pattern.compile("\\b(Math|Integer|Long|Arrays|String|StringBuilder|List|ArrayList|Character)\\.\\w+")
                .matcher(bareSource());
        while (m.find()) {
            hold(known.contains(m.group()), m.group() + " is listed and known to be used");
        }
    }

    /** Rules 8 and 11: but for methods that call themselves no chain of calls is a ring or deeper than eight. */
    private static void depthOfCalls() throws Exception {
        Map<String, Set<String>> calls = new TreeMap<>();
        String current = "";
        for (String line : bareSource().split("\n")) {
            Matcher begin = Pattern.compile(" {4,8}(?:[a-z]+ )*(?:\\w+ )?(\\w+)\\([^;]*\\) \\{").matcher(line);
            if (begin.matches() && !line.matches(" *(if|for|while|switch|else|return)\\b.*")) {
                current = begin.group(1);
                calls.computeIfAbsent(current, name -> new TreeSet<>());
                continue;
            }
            Matcher call = Pattern.compile("(?<!new )\\b(\\w+)\\(").matcher(line);
            while (!current.isEmpty() && call.find()) {
                calls.get(current).add(call.group(1));
            }
        }
        hold(calls.keySet().containsAll(FACE.stream().map(f -> f.substring(0, f.indexOf(' '))).toList()),
                "all methods of the face were found in the source");
        for (String name : calls.keySet()) {
            int depth = depthFrom(name, calls, 1);
            hold(depth <= 8, name + " goes " + depth + " deep");
        }
    }

    private static int depthFrom(String name, Map<String, Set<String>> calls, int depth) {
        int deepest = depth;
        for (String next : calls.get(name)) {
            if (calls.containsKey(next) && !next.equals(name) && depth < 20) {
                deepest = Math.max(deepest, depthFrom(next, calls, depth + 1));
            }
        }
        return deepest;
    }

    /** The calls themselves are to make nothing: all rows are made with the object. */
    private static void room() {
        com.sun.management.ThreadMXBean bean =
                (com.sun.management.ThreadMXBean) ManagementFactory.getThreadMXBean();
        long id = Thread.currentThread().getId();
        dearCalls(new RopeDance());
        RopeDance x = new RopeDance();
        long before = bean.getThreadAllocatedBytes(id);
        int answers = dearCalls(x);
        long made = bean.getThreadAllocatedBytes(id) - before;
        hold(made < 20000, answers + " calls made " + made + " bytes of objects");
    }

    private static int dearCalls(RopeDance x) {
        int calls = 0;
        for (int i = 0; i < 16; i++) {
            for (char c : new char[] {'d', '1', ',', '5', ';', 'r', '2', ';'}) {
                calls += x.write(c) == 0 ? 0 : 1;
            }
            int sum = x.fault() + x.lay() + x.dance(0) + x.dance(2) + x.put(0, 1) + x.undo() + x.free(0)
                    + x.reach(99, 98, 0) + x.meet(0, 2, 0) + x.ways(7) + x.plain() + x.comes(0) + x.behind(12, 0)
                    + x.see(1, 0, 1) + x.kinds(0) + x.look(1, 0) + x.danced(7) + x.duel(5) + x.odds(7, 5, 0)
                    + x.evening(9999, 60, 0) + x.keep() + x.back() + x.wipe();
            calls += sum == 0 ? 22 : 23;
        }
        return calls;
    }
}
