import java.io.IOException;
import java.lang.reflect.Constructor;
import java.lang.reflect.Field;
import java.lang.reflect.Member;
import java.lang.reflect.Method;
import java.lang.reflect.Modifier;
import java.nio.file.Files;
import java.nio.file.Path;
import java.util.Arrays;
import java.util.List;
import java.util.Set;
import java.util.TreeSet;
import java.util.regex.Matcher;
import java.util.regex.Pattern;

/** The document's face, and those rules of the language that can be read off the class and its text. */
public final class LanguageRules {
    private static final Set<String> FACE = new TreeSet<>(List.of(
        "int row(int, int, int)", "boolean field(int, int)", "int fields(int)", "int parts(int)",
        "int moves(int, int)", "int lay(int, int, int)", "int lift(int)", "int quarter(int, int)",
        "int worth(int, int)", "int number(int, int, int)", "int up(int, boolean, int)",
        "int game(int, int, int)", "int add(int, int, int)", "int turn(int, int)",
        "int option(int, int, int, int)", "int told(int, int)", "int compare(int, int)", "int wins(int)",
        "int value(int, int)", "int ups(int, int)", "int stop(int, int, int)", "int beginner(int, int)",
        "int best(int, int)"));
    private static final Set<String> CONSTANTS = new TreeSet<>(List.of("NUMBER", "KIND", "LARGE", "NONE"));

    private static int wrong = 0;

    private static void fault(String what) {
        wrong++;
        System.out.println(what);
    }

    private static void checkFace() {
        Class<?> bench = PlankBench.class;
        if (!Modifier.isFinal(bench.getModifiers()) || !Modifier.isPublic(bench.getModifiers())) fault("rule 1: public and final");
        Set<String> methods = new TreeSet<>();
        Set<String> constants = new TreeSet<>();
        for (Method m : bench.getDeclaredMethods()) {
            if (!isHidden(m)) methods.add(m.getReturnType() + " " + m.getName() + typesOf(m.getParameterTypes()));
        }
        for (Field f : bench.getDeclaredFields()) {
            if (!isHidden(f)) constants.add(f.getName());
        }
        if (!methods.equals(FACE)) fault("rule 1: the methods of the face are " + methods);
        if (!constants.equals(CONSTANTS)) fault("rule 1: the constants of the face are " + constants);
        Constructor<?>[] constructors = bench.getConstructors();
        if (constructors.length != 1 || constructors[0].getParameterCount() != 0) fault("rule 1: one constructor");
    }

    private static String typesOf(Class<?>[] types) {
        return Arrays.toString(types).replace('[', '(').replace(']', ')');
    }

    private static boolean isHidden(Member m) {
        return Modifier.isPrivate(m.getModifiers()) || m.isSynthetic();
    }

    private static void checkClasses() {
        Class<?>[] inside = PlankBench.class.getDeclaredClasses();
        if (inside.length > 12) fault("rule 11: " + inside.length + " classes");
        for (Class<?> c : inside) {
            if (!Modifier.isStatic(c.getModifiers())) fault("rule 2: " + c + " isn't static");
            checkMembers(c);
        }
        checkMembers(PlankBench.class);
    }

    private static void checkMembers(Class<?> c) {
        int fields = 0;
        for (Field f : c.getDeclaredFields()) {
            if (f.isSynthetic()) continue;
            if (!Modifier.isStatic(f.getModifiers())) fields++;
            else if (!Modifier.isFinal(f.getModifiers())) fault("rule 5: " + f);
        }
        if (fields > 20) fault("rule 11: " + c + " has " + fields + " fields");
        for (Method m : c.getDeclaredMethods()) {
            if (m.isSynthetic()) continue;
            if (m.getParameterCount() > 7) fault("rule 11: " + m);
            for (String face : FACE) {
                if (Modifier.isPrivate(m.getModifiers()) && face.contains(" " + m.getName() + "(")) fault("rule 1: " + m);
            }
        }
    }

    private static void checkText(String text) {
        String bare = text.replaceAll("(?s)/\\*.*?\\*/", "").replaceAll("//[^\n]*", "");
        Matcher banned = Pattern.compile("\\b(throw|throws|try|catch|finally|synchronized|assert|package)\\b").matcher(bare);
        while (banned.find()) fault("rule 6: " + banned.group());
        Matcher imports = Pattern.compile("import ([^;]*);").matcher(bare);
        while (imports.find()) {
            if (!imports.group(1).startsWith("java.util.")) fault("rule 4: " + imports.group());
        }
        Matcher library = Pattern.compile("\\bSystem\\.(?!arraycopy)\\w+|\\b\\w+Exact\\b|\\bThread\\b|\\bRandom\\b|::").matcher(bare);
        while (library.find()) fault("rule 4: " + library.group());
    }

    public static void main(String[] args) throws IOException {
        checkFace();
        checkClasses();
        checkText(Files.readString(Path.of("src/main/java/PlankBench.java")));
        System.out.println(wrong == 0 ? "the face and the rules are kept" : wrong + " faults");
        if (wrong != 0) System.exit(1);
    }
}
