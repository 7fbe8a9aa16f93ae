import java.lang.reflect.Field;
import java.net.URL;
import java.net.URLClassLoader;
import java.nio.file.Files;
import java.nio.file.Path;
import java.util.ArrayList;
import java.util.List;
import java.util.regex.Matcher;
import java.util.regex.Pattern;
import javax.tools.ToolProvider;

/** README.md's calls are made as they stand there and must answer what stands behind them; its table has all calls. */
public final class ReadmeTests {
    private static final Pattern BLOCK = Pattern.compile("```java\n(.*?)```", Pattern.DOTALL);
    private static final Pattern CALL = Pattern.compile("(\\S.*?);\\s+// (-?\\d+|throws \\w+)\\b.*");
    private static final Pattern FACE = Pattern.compile("public (?:int|long|void) (\\w+)\\((.*?)\\)");
    private static int wrong = 0;

    public static void main(String[] args) throws Exception {
        String readme = Files.readString(Path.of("README.md"));
        examples(readme);
        table(readme);
        constants(readme);
        System.out.println(wrong == 0 ? "README.md says what is so" : wrong + " things in README.md are wrong");
        if (wrong != 0) {
            System.exit(1);
        }
    }

    private static void same(String what, Object got, Object want) {
        if (!got.equals(want)) {
            wrong++;
            System.out.println("README.md: " + what + ": " + got + ", there stands " + want);
        }
    }

    private static void examples(String readme) throws Exception {
        StringBuilder members = new StringBuilder();
        StringBuilder body = new StringBuilder();
        List<String> calls = new ArrayList<>();
        List<String> answers = new ArrayList<>();
        Matcher blocks = BLOCK.matcher(readme);
        while (blocks.find()) {
            if (blocks.group(1).startsWith("static ")) {
                members.append(blocks.group(1));
                continue;
            }
            for (String line : blocks.group(1).split("\n")) {
                body.append(statement(line, calls, answers)).append('\n');
            }
        }
        same("it has calls", calls.size() > 20, true);
        List<?> got = made(members.toString(), body.toString());
        for (int i = 0; i < calls.size(); i++) {
            same(calls.get(i), got.get(i), answers.get(i));
        }
    }

    /** A line whose answer stands behind it notes its answer; another is as it is. */
    private static String statement(String line, List<String> calls, List<String> answers) {
        Matcher m = CALL.matcher(line);
        if (!m.matches()) {
            return line;
        }
        calls.add(m.group(1));
        answers.add(m.group(2));
        return "try { answers.add(String.valueOf(" + m.group(1) + ")); } catch (RuntimeException e) {"
                + " answers.add(\"throws \" + e.getClass().getSimpleName()); }";
    }

    private static List<?> made(String members, String body) throws Exception {
        Path folder = Files.createTempDirectory("readme");
        Path file = folder.resolve("Example.java");
        Files.writeString(file, "public final class Example {\n" + members + "\npublic static java.util.List<String> answers() {\n"
                + "java.util.List<String> answers = new java.util.ArrayList<>();\n" + body + "return answers;\n}\n}\n");
        int result = ToolProvider.getSystemJavaCompiler().run(null, null, null, "-cp", System.getProperty("java.class.path"), "-d",
                folder.toString(), file.toString());
        same("its examples can be compiled", result, 0);
        if (result != 0) {
            System.exit(1);
        }
        try (URLClassLoader loader = new URLClassLoader(new URL[] {folder.toUri().toURL()})) {
            return (List<?>) loader.loadClass("Example").getMethod("answers").invoke(null);
        } finally {
            Files.deleteIfExists(folder.resolve("Example.class"));
            Files.delete(file);
            Files.delete(folder);
        }
    }

    /** A row for each method of the face, in the order of the class and with its parameters. */
    private static void table(String readme) throws Exception {
        List<String> face = new ArrayList<>();
        Matcher methods = FACE.matcher(Files.readString(Path.of("src/main/java/HiddenSums.java")));
        while (methods.find()) {
            face.add(methods.group(1) + "(" + methods.group(2).replaceAll("(int|long) ", "") + ")");
        }
        List<String> rows = new ArrayList<>();
        Matcher cells = Pattern.compile("(?m)^\\| `(\\w+\\(.*?\\))`").matcher(readme);
        while (cells.find()) {
            rows.add(cells.group(1));
        }
        same("the calls of the class, as its table has them", face, rows);
    }

    private static void constants(String readme) throws Exception {
        for (Field f : HiddenSums.class.getFields()) {
            String constant = "`" + f.getName() + "` " + f.get(null);
            same(constant, readme.contains(constant), true);
        }
    }
}
