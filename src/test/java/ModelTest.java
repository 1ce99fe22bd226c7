import java.lang.reflect.InvocationTargetException;
import java.lang.reflect.Method;
import java.util.Arrays;
import java.util.HashMap;
import java.util.Map;
import java.util.Random;

/** Long runs of calls with fixed seeds, on the class and on the model: every answer must be the same. */
public final class ModelTest {
    private static final int RUNS = 6000;
    private static final int CALLS = 512;
    private static final int[] OPERATIONS = {10, 11, 12, 20, 30, 31, 40, 41, 42, 50, 51, 52, 60, 70, 71, 99};
    private static final long[] NO_WORDS = {10000000000L, -10000000000L, Long.MAX_VALUE, Long.MIN_VALUE};
    private static final String[] ASKED = {"accumulator", "extension", "next", "isOverflow", "beat", "waits", "done",
        "cards", "punched", "checksum", "waitShare", "meanPunched", "isSound"};
    private static final Map<String, Method> CLASS = methods(Drumline.class);
    private static final Map<String, Method> MODEL = methods(Model.class);

    private final int seed;
    private final Random dice;
    private final Drumline x = new Drumline();
    private final Model y = new Model();

    private ModelTest(int seed) {
        this.seed = seed;
        dice = new Random(seed);
    }

    public static void main(String[] args) {
        for (int seed = 0; seed < RUNS; seed++) {
            new ModelTest(seed).go();
        }
        Check.close();
    }

    private static Map<String, Method> methods(Class<?> type) {
        Map<String, Method> methods = new HashMap<>();
        for (Method method : type.getDeclaredMethods()) {
            methods.put(method.getName(), method);
        }
        return methods;
    }

    private static String answer(Method method, Object on, Object[] parts) {
        try {
            return String.valueOf(method.invoke(on, parts));
        } catch (InvocationTargetException e) {
            return e.getCause().getClass().getSimpleName();
        } catch (IllegalAccessException e) {
            throw new AssertionError(e);
        }
    }

    private void same(String name, Object... parts) {
        String got = answer(CLASS.get(name), x, parts);
        String due = answer(MODEL.get(name), y, parts);
        Check.same(got.equals(due) ? name : "run " + seed + ", " + name + Arrays.toString(parts), got, due);
    }

    /** Runs of even seeds have programs put word by word, those of odd ones a source. */
    private void go() {
        int calls = 0;
        for (; calls < 30; calls++) {
            if (seed % 2 == 0) {
                write();
            } else {
                source();
            }
        }
        for (; calls < CALLS; calls++) {
            switch (dice.nextInt(seed % 2 == 0 ? 8 : 12)) {
                case 0 -> write();
                case 1 -> look();
                case 2 -> panel();
                case 3 -> same("start", dice.nextInt(3) == 0 ? y.next() : address());
                case 4, 5 -> same("run", steps());
                case 6, 7 -> same(ASKED[dice.nextInt(ASKED.length)]);
                case 8, 9 -> source();
                default -> assembler();
            }
        }
    }

    /** Mostly from 0 to one less than the end, at times somewhat beyond. */
    private int near(int end) {
        return dice.nextInt(40) == 0 ? dice.nextInt(end + 4) - 2 : dice.nextInt(end);
    }

    private int address() {
        return near(40);
    }

    private int steps() {
        return dice.nextInt(40) == 0 ? dice.nextInt(2) * 101 : 1 + dice.nextInt(dice.nextInt(4) == 0 ? 100 : 8);
    }

    private long word() {
        int kind = dice.nextInt(60);
        if (kind == 0) {
            return NO_WORDS[dice.nextInt(4)];
        }
        long end = kind < 15 ? 10 : kind < 30 ? 100000 : 10000000000L;
        long word = dice.nextInt(8) == 0 ? end - 1 - dice.nextInt(3) : (long) (dice.nextDouble() * end);
        return dice.nextBoolean() ? word : -word;
    }

    /** Each fourth stop is put as another operation, so that programs come far. */
    private int operation() {
        return OPERATIONS[dice.nextInt(dice.nextInt(4) == 0 ? 16 : 15)];
    }

    private long instruction() {
        int operation = dice.nextInt(60) == 0 ? dice.nextInt(100) : operation();
        int d = operation / 10 == 4 ? 1 + near(9) : address();
        return operation * 100000000L + Math.max(0, d) * 10000L + Math.max(0, address());
    }

    private void write() {
        if (dice.nextInt(6) == 0) {
            same("fault", address(), 1 + near(10), near(10));
        } else {
            same("put", address(), dice.nextInt(3) == 0 ? word() : instruction());
        }
    }

    private void look() {
        switch (dice.nextInt(3)) {
            case 0 -> same("word", address());
            case 1 -> same("isGood", address());
            default -> same("punchedAt", near(y.punched() + 1));
        }
    }

    private void panel() {
        if (dice.nextInt(4) == 0) {
            same("wire", 1 + near(10), near(11));
        } else {
            same("addCard", dice.nextInt(20) == 0 ? word() : Math.abs(word()));
        }
    }

    private void source() {
        int kind = dice.nextInt(60);
        if (kind == 0) {
            same("clearSource");
        } else if (kind < 20) {
            same("addDatum", word());
        } else {
            int operation = dice.nextInt(30) == 0 ? dice.nextInt(101) : operation();
            int reference = operation / 10 == 4 ? 1 + near(9) : near(operation / 10 == 5 ? 8 : 4);
            same("addLine", operation, dice.nextInt(20) == 0 ? near(17) : reference, near(dice.nextInt(30) == 0 ? 16 : 8));
        }
    }

    private void assembler() {
        switch (dice.nextInt(5)) {
            case 0, 1 -> same("assemble", dice.nextInt(3) > 0);
            case 2 -> same("placeOf", near(8));
            case 3 -> same("placeOfDatum", near(4));
            default -> same("foretold", dice.nextBoolean());
        }
    }
}
