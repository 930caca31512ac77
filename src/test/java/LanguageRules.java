import java.io.PrintWriter;
import java.io.StringWriter;
import java.lang.reflect.Constructor;
import java.lang.reflect.Field;
import java.lang.reflect.Member;
import java.lang.reflect.Method;
import java.lang.reflect.Modifier;
import java.nio.file.Files;
import java.nio.file.Path;
import java.util.Arrays;
import java.util.HashMap;
import java.util.List;
import java.util.Map;
import java.util.Optional;
import java.util.Set;
import java.util.TreeSet;
import java.util.regex.Matcher;
import java.util.regex.Pattern;
import java.util.spi.ToolProvider;

/** The document's face, and those rules of the language that can be read off the class and its text. */
public final class LanguageRules {
    private static final Set<String> FACE = new TreeSet<>(List.of(
        "int row(int, int, int)", "boolean field(int, int)", "int fields(int)", "int parts(int)",
        "int moves(int, int)", "int lay(int, int, int)", "int lift(int)", "int quarter(int, int)",
        "int worth(int, int)", "int number(int, int, int)", "int up(int, boolean, int)",
        "int game(int, int, int)", "int add(int, int, int)", "int turn(int, int)",
        "int option(int, int, int, int)", "int told(int, int)", "int compare(int, int)", "int wins(int)",
        "int value(int, int)", "int ups(int, int)", "int stop(int, int, int)", "int beginner(int, int)",
        "int best(int, int)"));
    private static final Set<String> LIBRARY = Set.of("java/lang/Object.<init>", "java/lang/Integer.bitCount", "java/lang/Long.bitCount",
        "java/lang/Math.max", "java/lang/Math.min", "java/lang/Math.abs", "java/lang/Math.floorDiv", "java/lang/Math.floorMod");
    /** Stands among the calls for the making of an object or array. */
    private static final String MAKING = "new";
    private static final Set<String> CONSTANTS = new TreeSet<>(List.of("NUMBER", "KIND", "LARGE", "NONE"));

    private static final Optional<ToolProvider> JAVAP = ToolProvider.findFirst("javap");

    private static int wrong = 0;

    private static void fault(String what) {
        wrong++;
        System.out.println(what);
    }

    private static void checkFace() {
        Class<?> bench = PlankBench.class;
        if (!Modifier.isFinal(bench.getModifiers()) || !Modifier.isPublic(bench.getModifiers())) fault("rule 1: public and final");
        Set<String> methods = new TreeSet<>();
        Set<String> constants = new TreeSet<>();
        for (Method m : bench.getDeclaredMethods()) {
            if (!isHidden(m)) methods.add(m.getReturnType() + " " + m.getName() + typesOf(m.getParameterTypes()));
        }
        for (Field f : bench.getDeclaredFields()) {
            if (!isHidden(f)) constants.add(f.getName());
        }
        if (!methods.equals(FACE)) fault("rule 1: the methods of the face are " + methods);
        if (!constants.equals(CONSTANTS)) fault("rule 1: the constants of the face are " + constants);
        Constructor<?>[] constructors = bench.getConstructors();
        if (constructors.length != 1 || constructors[0].getParameterCount() != 0) fault("rule 1: one constructor");
    }

    private static String typesOf(Class<?>[] types) {
        return Arrays.toString(types).replace('[', '(').replace(']', ')');
    }

    private static boolean isHidden(Member m) {
        return Modifier.isPrivate(m.getModifiers()) || m.isSynthetic();
    }

    private static void checkClasses() {
        Class<?>[] inside = PlankBench.class.getDeclaredClasses();
        if (inside.length > 12) fault("rule 11: " + inside.length + " classes");
        for (Class<?> c : inside) {
            if (!Modifier.isStatic(c.getModifiers())) fault("rule 2: " + c + " isn't static");
            checkMembers(c);
        }
        checkMembers(PlankBench.class);
    }

    private static void checkMembers(Class<?> c) {
        int fields = 0;
        for (Field f : c.getDeclaredFields()) {
            if (f.isSynthetic()) continue;
            if (!Modifier.isStatic(f.getModifiers())) fields++;
            else if (!Modifier.isFinal(f.getModifiers())) fault("rule 5: " + f);
        }
        if (fields > 20) fault("rule 11: " + c + " has " + fields + " fields");
        for (Method m : c.getDeclaredMethods()) {
            if (m.isSynthetic()) continue;
            if (m.getParameterCount() > 7) fault("rule 11: " + m);
            for (String face : FACE) {
                if (Modifier.isPrivate(m.getModifiers()) && face.contains(" " + m.getName() + "(")) fault("rule 1: " + m);
            }
        }
    }

    private static void checkText(String text) {
        String bare = text.replaceAll("(?s)/\\*.*?\\*/", "").replaceAll("//[^\n]*", "");
        Matcher banned = Pattern.compile("\\b(throw|throws|try|catch|finally|synchronized|assert|package)\\b").matcher(bare);
        while (banned.find()) fault("rule 6: " + banned.group());
        Matcher imports = Pattern.compile("import ([^;]*);").matcher(bare);
        while (imports.find()) {
            if (!imports.group(1).startsWith("java.util.")) fault("rule 4: " + imports.group());
        }
        Matcher library = Pattern.compile("\\bSystem\\.(?!arraycopy)\\w+|\\b\\w+Exact\\b|\\bThread\\b|\\bRandom\\b|::").matcher(bare);
        while (library.find()) fault("rule 4: " + library.group());
        checkLoops(bare);
    }

    /** Rule 9: a counter that each round moves by one at least, or halves, against a bound. */
    private static void checkLoops(String bare) {
        Pattern counted = Pattern.compile("for \\(int (\\w+) = [^;]*; (\\1 (<|<=|>|>=) [^;]*); ([^{]*)\\) \\{");
        Matcher loops = Pattern.compile("\\b(for|while|do)\\b[^\n]*").matcher(bare);
        int seen = 0;
        while (loops.find()) {
            seen++;
            Matcher m = counted.matcher(loops.group());
            if (!m.matches() || !isCounting(m.group(1), m.group(3), m.group(4))) fault("rule 9: " + loops.group());
        }
        if (seen == 0) fault("rule 9: no loop was found to look at");
    }

    private static boolean isCounting(String counter, String towards, String step) {
        boolean goesUp = step.equals(counter + "++") || step.startsWith(counter + " = Math.max(" + counter + " + 1, ");
        boolean goesDown = step.equals(counter + "--") || step.equals(counter + " /= 2");
        return towards.startsWith("<") ? goesUp : goesDown;
    }

    /** Who calls whom, by name, the library too; read off what javap shows of the compiled class. */
    private static Map<String, Set<String>> calls() throws Exception {
        Path folder = Path.of(PlankBench.class.getProtectionDomain().getCodeSource().getLocation().toURI());
        Map<String, Set<String>> calls = new HashMap<>();
        try (var files = Files.list(folder)) {
            for (Path file : files.filter(f -> f.getFileName().toString().startsWith("PlankBench")).toList()) {
                noteCalls(file.getFileName().toString().replace(".class", ""), shown(file), calls);
            }
        }
        return calls;
    }

    private static String shown(Path file) {
        StringWriter text = new StringWriter();
        PrintWriter out = new PrintWriter(text);
        JAVAP.orElseThrow().run(out, out, "-p", "-c", file.toString());
        return text.toString();
    }

    private static void noteCalls(String inside, String text, Map<String, Set<String>> calls) {
        Pattern head = Pattern.compile("  (?:\\S+ )*([\\w$]+)\\(.*\\);");
        Pattern call = Pattern.compile(".*: invoke.*// (?:Interface)?Method (\\S+):.*");
        Set<String> here = null;
        for (String line : text.split("\\R")) {
            Matcher h = head.matcher(line);
            Matcher c = call.matcher(line);
            if (h.matches()) {
                String name = h.group(1).equals(inside) ? "<init>" : h.group(1);
                here = calls.computeIfAbsent(inside + "." + name, k -> new TreeSet<>());
            } else if (c.matches() && here != null) {
                String name = c.group(1).replace("\"", "");
                here.add(name.contains(".") ? name : inside + "." + name);
            } else if (here != null && line.matches(" *\\d+: (new|newarray|anewarray|multianewarray) .*")) {
                here.add(MAKING);
            }
        }
    }

    private static void checkCalls() throws Exception {
        if (JAVAP.isEmpty()) {
            System.out.println("this Java has no javap inside: what calls what was not looked at");
            return;
        }
        Map<String, Set<String>> calls = calls();
        checkDepth(calls);
        for (var entry : calls.entrySet()) {
            for (String called : entry.getValue()) {
                boolean isOwn = called.equals(MAKING) || calls.containsKey(called);
                if (!isOwn && !LIBRARY.contains(called)) fault("rule 4: " + entry.getKey() + " calls " + called);
            }
            boolean makes = entry.getValue().contains(MAKING);
            if (makes && !entry.getKey().endsWith("<init>")) fault("rule 12: " + entry.getKey() + " makes an object");
        }
    }

    /** Rules 8 and 11: one method calls itself, no other circle; all else goes eight deep at most. */
    private static void checkDepth(Map<String, Set<String>> calls) {
        Set<String> selfCallers = new TreeSet<>();
        for (var entry : calls.entrySet()) {
            if (entry.getValue().remove(entry.getKey())) selfCallers.add(entry.getKey());
        }
        if (!selfCallers.equals(Set.of("PlankBench$Play.isWon"))) fault("rule 8: " + selfCallers + " call themselves");
        for (String face : FACE) {
            String name = face.substring(face.indexOf(' ') + 1, face.indexOf('('));
            if (!calls.containsKey("PlankBench." + name)) fault("rule 11: no calls of " + name + " were found");
            int deep = deepest(calls, "PlankBench." + name, 1);
            if (deep > 8) fault("rule 11: " + name + " goes " + deep + " calls deep");
        }
    }

    private static int deepest(Map<String, Set<String>> calls, String from, int deep) {
        int most = deep;
        // A circle of calls would go on for ever: it is told as twenty deep.
        if (deep >= 20) return deep;
        for (String next : calls.getOrDefault(from, Set.of())) most = Math.max(most, deepest(calls, next, deep + 1));
        return most;
    }

    public static void main(String[] args) throws Exception {
        checkFace();
        checkClasses();
        checkCalls();
        checkText(Files.readString(Path.of("src/main/java/PlankBench.java")));
        System.out.println(wrong == 0 ? "the face and the rules are kept" : wrong + " faults");
        if (wrong != 0) System.exit(1);
    }
}
