import java.io.IOException;
import java.lang.reflect.Array;
import java.lang.reflect.Field;
import java.lang.reflect.Method;
import java.lang.reflect.Modifier;
import java.nio.file.Files;
import java.nio.file.Path;
import java.util.ArrayList;
import java.util.HashSet;
import java.util.List;
import java.util.Set;
import java.util.TreeSet;
import java.util.regex.Matcher;
import java.util.regex.Pattern;

/** What README.md says of the class's use and of its tests is so: it is read, and held against both. */
public final class ReadmeHolds {
    private static int wrong = 0;

    private static void fault(String what) {
        wrong++;
        System.out.println("README.md: " + what);
    }

    private static Method methodOf(String name) {
        for (Method m : PlankBench.class.getDeclaredMethods()) {
            if (Modifier.isPublic(m.getModifiers()) && m.getName().equals(name)) return m;
        }
        return null;
    }

    private static Set<String> faceNames() {
        Set<String> names = new TreeSet<>();
        for (Method m : PlankBench.class.getDeclaredMethods()) {
            if (Modifier.isPublic(m.getModifiers())) names.add(m.getName());
        }
        return names;
    }

    private static List<String> split(String arguments) {
        List<String> parts = new ArrayList<>();
        for (String part : arguments.split(",")) {
            if (!part.isBlank()) parts.add(part.trim());
        }
        return parts;
    }

    private static Set<String> namesIn(String text, String pattern) {
        Set<String> names = new TreeSet<>();
        Matcher m = Pattern.compile(pattern, Pattern.MULTILINE).matcher(text);
        while (m.find()) names.add(m.group(1));
        return names;
    }

    private static void same(String what, Set<String> said, Set<String> due) {
        if (!said.equals(due)) fault(what + " are told as " + said + ", but are " + due);
    }

    private static String section(String text, String title) {
        int start = text.indexOf("\n" + title + "\n");
        if (start < 0) {
            fault("there is no " + title);
            return "";
        }
        Matcher end = Pattern.compile("^##+ ", Pattern.MULTILINE).matcher(text);
        return end.find(start + title.length() + 1) ? text.substring(start, end.start()) : text.substring(start);
    }

    /** Each line of the example that makes a call, in turn, on one bench. */
    private static void checkExample(String text) throws ReflectiveOperationException {
        PlankBench bench = new PlankBench();
        Set<String> called = new TreeSet<>();
        Matcher m = Pattern.compile("^bench\\.(\\w+)\\((.*)\\); *// (true|false|-?\\d+)\\b(.*)$", Pattern.MULTILINE).matcher(text);
        int lines = 0;
        while (m.find()) {
            lines++;
            called.add(m.group(1));
            String got = answer(bench, m.group(1), split(m.group(2)));
            if (!got.equals(m.group(3))) fault(m.group() + " (answered " + got + ")");
            checkNamedConstant(m.group(3), m.group(4));
        }
        if (lines != linesWith(text, "bench.")) fault("a line of the example has no answer");
        same("the calls of the example", called, faceNames());
    }

    private static long linesWith(String text, String start) {
        return text.lines().filter(line -> line.startsWith(start)).count();
    }

    private static String answer(PlankBench bench, String name, List<String> arguments) throws ReflectiveOperationException {
        Method method = methodOf(name);
        if (method == null || method.getParameterCount() != arguments.size()) return "nothing: there is no such call";
        Object[] given = new Object[arguments.size()];
        for (int i = 0; i < given.length; i++) {
            boolean isTruth = method.getParameterTypes()[i] == boolean.class;
            given[i] = isTruth ? (Object) Boolean.valueOf(arguments.get(i)) : (Object) Integer.valueOf(arguments.get(i));
        }
        return String.valueOf(method.invoke(bench, given));
    }

    private static void checkNamedConstant(String answer, String words) throws ReflectiveOperationException {
        Matcher m = Pattern.compile("\\b(NUMBER|KIND|LARGE|NONE)\\b").matcher(words);
        if (m.find() && !answer.equals(constant(m.group(1)))) fault(answer + " isn't " + m.group(1));
    }

    private static String constant(String name) throws ReflectiveOperationException {
        return String.valueOf(PlankBench.class.getField(name).getInt(null));
    }

    private static void checkTables(String text) throws ReflectiveOperationException {
        Matcher calls = Pattern.compile("^\\| `(\\w+)\\((.*?)\\)` \\|", Pattern.MULTILINE).matcher(text);
        while (calls.find()) {
            Method method = methodOf(calls.group(1));
            if (method == null || method.getParameterCount() != split(calls.group(2)).size()) fault(calls.group());
        }
        same("the calls", namesIn(text, "^\\| `(\\w+)\\("), faceNames());
        Set<String> constants = new TreeSet<>();
        for (Field f : PlankBench.class.getFields()) constants.add("`" + f.getName() + "` | " + f.getInt(null));
        same("the constants", namesIn(text, "^\\| (`[A-Z]+` \\| -?\\d+) \\|"), constants);
    }

    /** Who refuses by what: each call that a constant's row names can answer it. */
    private static void checkRefusals(String text) {
        same("those that answer KIND", refusers(text, "KIND"), Set.of("lay"));
        same("those that answer LARGE", refusers(text, "LARGE"), new TreeSet<>(Set.of("worth", "beginner", "best", "game", "add", "compare")));
        same("those that answer NONE", refusers(text, "NONE"), new TreeSet<>(Set.of("lift", "option", "best")));
    }

    private static Set<String> refusers(String text, String constant) {
        Set<String> rows = namesIn(text, "^\\| `" + constant + "` \\|[^|]*\\|(.*)\\|$");
        return namesIn(rows.isEmpty() ? "" : rows.iterator().next(), "`(\\w+)`");
    }

    private static void checkClasses(String text) {
        Set<String> classes = new TreeSet<>();
        for (Class<?> c : PlankBench.class.getDeclaredClasses()) classes.add(c.getSimpleName());
        same("the classes inside", namesIn(text, "`([A-Z]\\w+)`"), classes);
    }

    /** How much an object holds, and that calls of every sort make it hold no more. */
    private static void checkRoom() throws ReflectiveOperationException {
        PlankBench bench = new PlankBench();
        long[] before = counted(bench);
        if (before[0] < 90 || before[0] > 110) fault("a bench is " + before[0] + " objects and arrays");
        if (before[1] < 45000 || before[1] > 55000) fault("a bench holds " + before[1] + " elements and fields");
        bench.row(0, 0, 15);
        bench.row(0, 1, 15);
        bench.lay(0, 0, 0);
        bench.worth(0, 0);
        bench.up(-6, true, 1);
        bench.add(0, 1, 2);
        bench.game(7, 7, 3);
        bench.best(1, 0);
        if (counted(bench)[0] != before[0] || counted(bench)[1] != before[1]) fault("a bench grows by calls");
    }

    private static long[] counted(PlankBench bench) throws ReflectiveOperationException {
        long[] sums = new long[2];
        count(bench, new HashSet<>(), sums);
        return sums;
    }

    private static void count(Object o, Set<Object> seen, long[] sums) throws ReflectiveOperationException {
        if (o == null || !seen.add(o)) return;
        sums[0]++;
        if (o.getClass().isArray()) {
            sums[1] += Array.getLength(o);
            if (o instanceof Object[] all) {
                for (Object one : all) count(one, seen, sums);
            }
            return;
        }
        for (Field f : o.getClass().getDeclaredFields()) {
            if (Modifier.isStatic(f.getModifiers())) continue;
            sums[1]++;
            f.setAccessible(true);
            if (!f.getType().isPrimitive()) count(f.get(o), seen, sums);
        }
    }

    private static void checkTests(String text) throws IOException {
        Set<String> files = new TreeSet<>();
        try (var found = Files.list(Path.of("src/test/java"))) {
            found.forEach(f -> files.add(f.getFileName().toString().replace(".java", "")));
        }
        same("the tests", namesIn(text, "^- `(\\w+)`"), files);
        for (String path : namesIn(text, "(\\S+/\\S+\\.java)\\b")) {
            if (!Files.isRegularFile(Path.of(path))) fault("there is no " + path);
        }
        if (!Files.isExecutable(Path.of(".ci/run"))) fault(".ci/run can't be run");
    }

    public static void main(String[] args) throws Exception {
        String text = Files.readString(Path.of("README.md"));
        checkExample(section(text, "## Use"));
        checkTables(section(text, "### The calls"));
        checkRefusals(section(text, "### The calls"));
        checkClasses(section(text, "## How it is built"));
        checkTests(section(text, "## Tests"));
        checkRoom();
        System.out.println(wrong == 0 ? "what README.md says is so" : wrong + " faults");
        if (wrong != 0) System.exit(1);
    }
}
