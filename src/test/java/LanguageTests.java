import java.lang.reflect.Field;
import java.lang.reflect.Method;
import java.lang.reflect.Modifier;
import java.nio.file.Files;
import java.nio.file.Path;
import java.util.ArrayDeque;
import java.util.ArrayList;
import java.util.Deque;
import java.util.List;
import java.util.Set;
import java.util.regex.Matcher;
import java.util.regex.Pattern;

/** The file keeps to what LANGUAGE.md leaves, as far as its lines and the compiled classes show it, by its rules' numbers. */
public final class LanguageTests {
    private static final List<String> RULED_OUT = List.of("2 ->", "2 ::", "4 Exact\\(", "6 \\btry\\b", "6 \\bcatch\\b", "6 \\bfinally\\b",
            "6 \\bassert\\b", "6 \\bsynchronized\\b", "0 ^package ", "4 ^import (?!java\\.util\\.Arrays;)", "4 \\bSystem\\.(?!arraycopy)",
            "4 \\bArrays\\.(?!fill|copyOf)", "4 \\b(?:Math|Integer|Long)\\.", "4 \\bList\\b", "5 \\bstatic \\{",
            "6 \\bthrow (?!new (IndexOutOfBounds|IllegalState|IllegalArgument)Exception\\(\"\"\\);)", "9 \\bwhile \\(true\\)", "9 for \\(;;",
            "9 \\bdo\\b", "3 \\bdouble\\b", "3 \\bfloat\\b", "3 \\bvar\\b", "3 \\bObject\\b");
    private static final Set<Class<?>> CONSTANTS = Set.of(int.class, long.class, boolean.class, char.class, String.class, int[].class,
            long[].class, char[].class, byte[].class);
    private static final Pattern HEADER = Pattern.compile("(\\w+)\\s*\\([^()]*\\)(\\s*throws [\\w, \\n]+)?\\s*$");
    private static final Pattern CLASS = Pattern.compile("\\bclass (\\w+)");
    private static final Pattern CALL = Pattern.compile("(\\bnew\\s+|\\.|)\\b(\\w+)\\(");
    private static int wrong = 0;

    /** A method, or a constructor, which has the name of its class. */
    private record Body(String owner, String name, String code) {
        boolean isConstructor() {
            return owner.equals(name);
        }
    }

    private static final List<Body> BODIES = new ArrayList<>();

    public static void main(String[] args) throws Exception {
        String code = bare(Files.readString(Path.of("src/main/java/HiddenSums.java")));
        linesRuledOut(code);
        readBodies(code);
        List<Class<?>> classes = new ArrayList<>(List.of(HiddenSums.class.getDeclaredClasses()));
        classes.add(HiddenSums.class);
        holds(11, "twelve classes at most", classes.size() <= 12);
        classes.forEach(LanguageTests::members);
        BODIES.forEach(LanguageTests::body);
        System.out.println(wrong == 0 ? BODIES.size() + " methods keep to the language" : wrong + " things are outside of the language");
        if (wrong != 0) {
            System.exit(1);
        }
    }

    private static void holds(int rule, String what, boolean isSo) {
        if (!isSo) {
            wrong++;
            System.out.println("rule " + rule + ": " + what + " does not hold");
        }
    }

    /** The code with its lines, without what stands in comments and between quotes. */
    private static String bare(String code) {
        Matcher m = Pattern.compile("/\\*.*?\\*/|//[^\n]*|\"[^\"\n]*\"|'[^'\n]*'", Pattern.DOTALL).matcher(code);
        return m.replaceAll(found -> found.group().startsWith("\"") ? "\"\"" : found.group().replaceAll("[^\n]", ""));
    }

    private static void linesRuledOut(String code) {
        String[] lines = code.split("\n");
        for (int i = 0; i < lines.length; i++) {
            for (String ruled : RULED_OUT) {
                int space = ruled.indexOf(' ');
                boolean isThere = Pattern.compile(ruled.substring(space + 1)).matcher(lines[i].strip()).find();
                holds(Integer.parseInt(ruled.substring(0, space)), "line " + (i + 1) + " is without " + ruled.substring(space + 1), !isThere);
            }
        }
    }

    /** Whatever stands between a { and its } right in a class, behind a name with brackets. */
    private static void readBodies(String code) {
        Deque<String> open = new ArrayDeque<>();
        Deque<Integer> starts = new ArrayDeque<>();
        int from = 0;
        for (int i = 0; i < code.length(); i++) {
            char c = code.charAt(i);
            if (c == '{') {
                String header = code.substring(from, i);
                Matcher isClass = CLASS.matcher(header);
                Matcher isMethod = HEADER.matcher(header);
                boolean isInClass = !open.isEmpty() && open.peek().startsWith("class ");
                open.push(isClass.find() ? "class " + isClass.group(1) : isInClass && isMethod.find() ? isMethod.group(1) : "");
                starts.push(i);
            } else if (c == '}') {
                String name = open.pop();
                int start = starts.pop();
                if (!name.isEmpty() && !name.startsWith("class ")) {
                    BODIES.add(new Body(open.peek().substring(6), name, code.substring(start, i + 1)));
                }
            }
            from = c == '{' || c == '}' || c == ';' ? i + 1 : from;
        }
    }

    private static void members(Class<?> type) {
        int fields = 0;
        for (Field f : type.getDeclaredFields()) {
            boolean isStatic = Modifier.isStatic(f.getModifiers());
            fields += isStatic ? 0 : 1;
            holds(5, f + " is final and a constant", !isStatic || Modifier.isFinal(f.getModifiers()) && CONSTANTS.contains(f.getType()));
        }
        holds(11, type + " has twenty fields at most", fields <= 20);
        for (Method m : type.getDeclaredMethods()) {
            holds(11, m + " has seven parameters at most", m.getParameterCount() <= 7);
            boolean isRead = BODIES.stream().anyMatch(b -> b.owner().equals(type.getSimpleName()) && b.name().equals(m.getName()));
            holds(0, m + " was found among the lines", isRead);
        }
    }

    private static void body(Body b) {
        String name = b.owner() + "." + b.name();
        holds(11, name + " has some sixty lines at most", b.code().lines().count() <= 60);
        holds(12, name + " makes nothing but exceptions", b.isConstructor() || !Pattern.compile("(?<!throw )\\bnew\\b").matcher(b.code()).find());
        holds(6, name + ": no throw in a constructor", !b.isConstructor() || !b.code().contains("throw "));
        holds(11, name + " goes eight calls deep at most", depth(b, new ArrayDeque<>()) <= 8);
    }

    /** How many calls stand open at once below one; one that comes back to itself is told, as no recursion is needed. */
    private static int depth(Body b, Deque<Body> open) {
        if (open.contains(b)) {
            holds(8, b.owner() + "." + b.name() + " does not call itself", false);
            return 0;
        }
        open.push(b);
        int deepest = 0;
        Matcher m = CALL.matcher(b.code());
        while (m.find()) {
            for (Body called : BODIES) {
                boolean isOwn = m.group(1).isEmpty() ? called.owner().equals(b.owner()) && !called.isConstructor()
                        : called.isConstructor() == m.group(1).startsWith("new");
                if (isOwn && called.name().equals(m.group(2))) {
                    deepest = Math.max(deepest, depth(called, open));
                }
            }
        }
        open.pop();
        return deepest + 1;
    }
}
