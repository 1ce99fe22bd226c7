import java.io.IOException;
import java.net.URL;
import java.net.URLClassLoader;
import java.nio.file.Files;
import java.nio.file.Path;
import java.util.ArrayList;
import java.util.List;
import java.util.TreeSet;
import javax.tools.ToolProvider;

/** What README.md says: its examples run as they stand, with the answers that their comments tell, and its tests exist. */
public final class ReadmeTest {
    /** A line of an example that tells its answer at the end of its comment: "type name = call; // 'answer'". */
    private static final String TELLS = "\\s*(char|int|long|boolean|float|double) (\\w+) = .*;\\s*// .*";

    public static void main(String[] args) throws Exception {
        List<String> readme = Files.readAllLines(Path.of("README.md"));
        examples(readme);
        calls(readme);
        tests(readme);
        Check.close();
    }

    /** Compiles the examples, each as a method, and compares the told answers. */
    private static void examples(List<String> readme) throws Exception {
        List<String> code = new ArrayList<>();
        List<String> due = new ArrayList<>();
        int examples = 0;
        boolean isInside = false;
        for (String line : readme) {
            if (line.equals("```java")) {
                isInside = true;
                code.add("static void example" + examples++ + "(java.util.List<Object> told) {");
            } else if (line.equals("```") && isInside) {
                isInside = false;
                code.add("}");
            } else if (isInside) {
                code.add(line);
                if (line.matches(TELLS)) {
                    code.add("told.add(" + line.replaceFirst(TELLS, "$2") + ");");
                    due.add(line.replaceFirst(".*// ", ""));
                }
            }
        }
        Check.same("examples in README.md", examples > 0 && !due.isEmpty(), true);
        List<Object> told = run(code, examples);
        Check.number("answers in README.md", told.size(), due.size());
        for (int i = 0; i < Math.min(told.size(), due.size()); i++) {
            Object answer = told.get(i);
            Check.same("README.md", answer instanceof Character ? "'" + answer + "'" : "" + answer, due.get(i));
        }
    }

    private static List<Object> run(List<String> code, int examples) throws Exception {
        Path dir = Files.createTempDirectory("readme");
        Path file = dir.resolve("Example.java");
        Files.writeString(file, "public final class Example {\n" + String.join("\n", code) + "\n}\n");
        String classes = System.getProperty("java.class.path");
        int result = ToolProvider.getSystemJavaCompiler().run(null, null, null, "-cp", classes, "-d", dir.toString(),
                file.toString());
        Check.number("the examples of README.md compile", result, 0);
        List<Object> told = new ArrayList<>();
        try (URLClassLoader loader = new URLClassLoader(new URL[] {dir.toUri().toURL()})) {
            for (int i = 0; result == 0 && i < examples; i++) {
                var method = loader.loadClass("Example").getDeclaredMethod("example" + i, List.class);
                method.setAccessible(true);
                method.invoke(null, told);
            }
        }
        remove(dir);
        return told;
    }

    private static void remove(Path dir) throws IOException {
        try (var files = Files.list(dir)) {
            for (Path file : files.toList()) {
                Files.delete(file);
            }
        }
        Files.delete(dir);
    }

    /** Every call of the face is named. */
    private static void calls(List<String> readme) {
        String text = String.join("\n", readme);
        for (var method : Drumline.class.getDeclaredMethods()) {
            if (java.lang.reflect.Modifier.isPublic(method.getModifiers())) {
                Check.same("README.md names " + method.getName(), text.contains("`" + method.getName() + "`"), true);
            }
        }
    }

    /** The table names every test, and none that isn't there. */
    private static void tests(List<String> readme) throws IOException {
        TreeSet<String> named = new TreeSet<>();
        for (String line : readme) {
            if (line.matches("\\| `\\w+Test` \\|.*")) {
                named.add(line.substring(3, line.indexOf('`', 3)));
            }
        }
        TreeSet<String> there = new TreeSet<>();
        try (var files = Files.list(Path.of("src/test/java"))) {
            files.map(file -> file.getFileName().toString()).filter(name -> name.endsWith("Test.java"))
                    .forEach(name -> there.add(name.substring(0, name.length() - 5)));
        }
        Check.same("tests that README.md names", named, there);
    }
}
