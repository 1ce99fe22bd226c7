import java.lang.reflect.Constructor;
import java.lang.reflect.Field;
import java.lang.reflect.Method;
import java.lang.reflect.Modifier;
import java.nio.file.Files;
import java.nio.file.Path;
import java.util.ArrayList;
import java.util.Arrays;
import java.util.HashSet;
import java.util.List;
import java.util.Set;
import java.util.TreeSet;

/** The document's face, and the rules of LANGUAGE.md that can be read off the class or its text. */
public final class FaceTest {
    private static final String[] FACE = {
        "long put(int, long) IndexOutOfBoundsException IllegalArgumentException",
        "long word(int) IndexOutOfBoundsException",
        "int fault(int, int, int) IndexOutOfBoundsException IllegalArgumentException",
        "boolean isGood(int) IndexOutOfBoundsException",
        "int wire(int, int) IllegalArgumentException",
        "int addCard(long) IllegalArgumentException IllegalStateException",
        "int cards()",
        "int punched()",
        "long punchedAt(int) IndexOutOfBoundsException",
        "int start(int) IndexOutOfBoundsException",
        "char run(int) IllegalArgumentException",
        "long accumulator()",
        "long extension()",
        "int next()",
        "boolean isOverflow()",
        "int beat()",
        "int waits()",
        "int done()",
        "int addDatum(long) IllegalArgumentException IllegalStateException",
        "int addLine(int, int, int) IllegalArgumentException IllegalStateException",
        "int clearSource()",
        "int assemble(boolean) IllegalStateException NoSuchElementException",
        "int placeOf(int) IndexOutOfBoundsException IllegalStateException",
        "int placeOfDatum(int) IndexOutOfBoundsException IllegalStateException",
        "int foretold(boolean) IllegalStateException NoSuchElementException",
        "long checksum()",
        "float waitShare() ArithmeticException",
        "double meanPunched() ArithmeticException",
        "boolean isSound()",
    };

    public static void main(String[] args) throws Exception {
        face();
        insides();
        text();
        Check.close();
    }

    private static String told(Method method) {
        StringBuilder text = new StringBuilder(method.getReturnType().getSimpleName());
        text.append(' ').append(method.getName()).append('(');
        for (Class<?> type : method.getParameterTypes()) {
            text.append(text.charAt(text.length() - 1) == '(' ? "" : ", ").append(type.getSimpleName());
        }
        text.append(')');
        for (Class<?> type : method.getExceptionTypes()) {
            text.append(' ').append(type.getSimpleName());
        }
        return text.toString();
    }

    private static void face() {
        Class<Drumline> type = Drumline.class;
        Check.same("modifiers", Modifier.toString(type.getModifiers()), "public final");
        Set<String> told = new TreeSet<>();
        for (Method method : type.getDeclaredMethods()) {
            int modifiers = method.getModifiers();
            if (!Modifier.isPrivate(modifiers) && !method.isSynthetic()) {
                Check.same(method.getName() + " is", Modifier.toString(modifiers), "public");
                told.add(told(method));
            }
        }
        Check.same("face", told, new TreeSet<>(Arrays.asList(FACE)));
        Constructor<?>[] constructors = type.getDeclaredConstructors();
        Check.number("constructors", constructors.length, 1);
        Check.same("constructor", constructors[0].toString(), "public Drumline()");
        for (Field field : type.getDeclaredFields()) {
            Check.same(field.getName() + " private", Modifier.isPrivate(field.getModifiers()), true);
        }
    }

    private static void insides() {
        List<Class<?>> types = new ArrayList<>(Arrays.asList(Drumline.class.getDeclaredClasses()));
        Set<String> names = new HashSet<>();
        for (Method method : Drumline.class.getMethods()) {
            names.add(method.getName());
        }
        Check.same("classes", types.size() <= 12, true);
        for (Class<?> type : types) {
            Check.same(type + " is static", Modifier.isStatic(type.getModifiers()), true);
            Check.same(type + " is not public", Modifier.isPublic(type.getModifiers()), false);
            for (Method method : type.getDeclaredMethods()) {
                Check.same(type + " " + method.getName(), names.contains(method.getName()), false);
                Check.same(method.getName() + " parameters", method.getParameterCount() <= 7, true);
            }
        }
        types.add(Drumline.class);
        for (Class<?> type : types) {
            int fields = 0;
            for (Field field : type.getDeclaredFields()) {
                if (Modifier.isStatic(field.getModifiers())) {
                    Check.same(field + " final", Modifier.isFinal(field.getModifiers()), true);
                } else {
                    fields++;
                }
            }
            Check.same(type + " fields", fields <= 20, true);
        }
        for (Method method : Drumline.class.getDeclaredMethods()) {
            if (Modifier.isPrivate(method.getModifiers())) {
                Check.same(method.getName(), names.contains(method.getName()), false);
            }
        }
    }

    private static void text() throws Exception {
        String[] forbidden = {"->", "::", "catch", "finally", "synchronized", "assert", "instanceof", "@", "Exact(",
            "+ \"", "\" +", "package ", "System.", "Random", "Thread", "yield", "var "};
        String[] allowedImports = {"import java.util.Arrays;", "import java.util.NoSuchElementException;"};
        for (String line : Files.readAllLines(Path.of("src/main/java/Drumline.java"))) {
            for (String sign : forbidden) {
                Check.same("'" + sign + "' in " + line, line.contains(sign), false);
            }
            if (line.startsWith("import")) {
                Check.same(line, Arrays.asList(allowedImports).contains(line), true);
            }
        }
    }
}
