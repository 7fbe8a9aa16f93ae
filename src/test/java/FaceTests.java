import java.lang.reflect.Constructor;
import java.lang.reflect.Field;
import java.lang.reflect.Method;
import java.lang.reflect.Modifier;
import java.util.ArrayList;
import java.util.Arrays;
import java.util.List;
import java.util.TreeSet;

/** The class has the document's face and no more. */
public final class FaceTests {
    private static final List<String> FACE = List.of("int ask(int)", "int audit(int,int)", "int cell(int,int,int,int)", "int close(int,int)",
            "int cursor(int)", "int found(int)", "int object()", "int place()", "int rows(int,int)", "int rule(int)", "int seen(int,int)",
            "int set(int,int,int)", "int solved(int,int,int)", "int step(int)",
            "int sum(int,int,int) IndexOutOfBoundsException IllegalStateException IllegalArgumentException", "int told(int)",
            "int type(long,int)", "int user()",
            "int value(int,int,int) IndexOutOfBoundsException IllegalStateException IllegalArgumentException", "int would(int,int,int,int)",
            "long world(int,int,int,int)", "void clear()");
    private static final List<String> CONSTANTS = List.of("int BAD = -2", "int BARRED = -6", "int FULL = -4", "int NONE = -1", "int STATE = -5");
    private static int wrong = 0;

    public static void main(String[] args) throws Exception {
        Class<?> type = HiddenSums.class;
        same("the class", Modifier.toString(type.getModifiers()), "public final");
        same("methods", methodsOf(type).toString(), new TreeSet<>(FACE).toString());
        same("constants", constantsOf(type).toString(), CONSTANTS.toString());
        Constructor<?>[] constructors = type.getDeclaredConstructors();
        same("constructors", constructors.length + " " + constructors[0], "1 public HiddenSums()");
        namesThatClash(type);
        for (Class<?> inner : type.getDeclaredClasses()) {
            same(inner.getName() + " is static", "" + Modifier.isStatic(inner.getModifiers()), "true");
            namesThatClash(inner);
        }
        System.out.println(wrong == 0 ? "the face is the document's" : wrong + " things about the face are wrong");
        if (wrong != 0) {
            System.exit(1);
        }
    }

    private static void same(String what, String got, String want) {
        if (!got.equals(want)) {
            wrong++;
            System.out.println(what + ": " + got + ", due is " + want);
        }
    }

    private static TreeSet<String> methodsOf(Class<?> type) {
        TreeSet<String> found = new TreeSet<>();
        for (Method m : type.getDeclaredMethods()) {
            if (Modifier.isPrivate(m.getModifiers())) {
                continue;
            }
            List<String> parameters = new ArrayList<>();
            Arrays.stream(m.getParameterTypes()).forEach(p -> parameters.add(p.getSimpleName()));
            StringBuilder face = new StringBuilder(m.getReturnType() + " " + m.getName() + "(" + String.join(",", parameters) + ")");
            Arrays.stream(m.getExceptionTypes()).forEach(e -> face.append(' ').append(e.getSimpleName()));
            found.add(Modifier.toString(m.getModifiers()).equals("public") ? face.toString() : m.toString());
        }
        return found;
    }

    private static TreeSet<String> constantsOf(Class<?> type) throws IllegalAccessException {
        TreeSet<String> found = new TreeSet<>();
        for (Field f : type.getDeclaredFields()) {
            if (!Modifier.isPrivate(f.getModifiers())) {
                boolean isConstant = Modifier.toString(f.getModifiers()).equals("public static final");
                found.add(isConstant ? f.getType() + " " + f.getName() + " = " + f.get(null) : f.toString());
            }
        }
        return found;
    }

    private static void namesThatClash(Class<?> type) {
        for (Method m : type.getDeclaredMethods()) {
            boolean ofFace = type == HiddenSums.class && Modifier.isPublic(m.getModifiers());
            boolean clashes = FACE.stream().anyMatch(face -> face.contains(" " + m.getName() + "("));
            same(m + " bears a public name", "" + (clashes && !ofFace), "false");
        }
    }
}
