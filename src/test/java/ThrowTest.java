import java.util.ArrayList;
import java.util.List;
import java.util.NoSuchElementException;

/** A call that throws changes nothing, and of several exceptions the one that is documented first is thrown. */
public final class ThrowTest {
    /** A call on an object that is given. */
    private interface On {
        Object answer(Drumline x);
    }

    private static final long NO_WORD = 10000000000L;

    public static void main(String[] args) {
        List<On> ranges = new ArrayList<>();
        ranges.add(x -> x.put(40, NO_WORD));
        ranges.add(x -> x.put(-1, 5));
        ranges.add(x -> x.word(40));
        ranges.add(x -> x.fault(40, 11, 3));
        ranges.add(x -> x.fault(-1, 1, 3));
        ranges.add(x -> x.isGood(40));
        ranges.add(x -> x.punchedAt(2));
        ranges.add(x -> x.punchedAt(-1));
        ranges.add(x -> x.start(40));
        ranges.add(x -> x.placeOf(16));
        ranges.add(x -> x.placeOfDatum(8));
        all(ranges, IndexOutOfBoundsException.class);

        List<On> arguments = new ArrayList<>();
        arguments.add(x -> x.put(1, NO_WORD));
        arguments.add(x -> x.put(1, -NO_WORD));
        arguments.add(x -> x.fault(1, 0, 3));
        arguments.add(x -> x.fault(1, 3, 10));
        arguments.add(x -> x.wire(0, 1));
        arguments.add(x -> x.wire(1, 11));
        arguments.add(x -> x.addCard(-1));
        arguments.add(x -> x.addCard(NO_WORD));
        arguments.add(x -> x.run(0));
        arguments.add(x -> x.run(101));
        arguments.add(x -> x.addDatum(NO_WORD));
        arguments.add(x -> x.addLine(60, 0, 0));
        arguments.add(x -> x.addLine(10, 8, 0));
        arguments.add(x -> x.addLine(10, 0, 16));
        all(arguments, IllegalArgumentException.class);

        List<On> full = new ArrayList<>();
        full.add(x -> x.addCard(1));
        full.add(x -> x.addDatum(1));
        full.add(x -> x.addLine(99, 0, 0));
        all(full, IllegalStateException.class);

        unassembled();
        empty();
        Check.close();
    }

    private static void all(List<On> calls, Class<? extends RuntimeException> due) {
        for (int i = 0; i < calls.size(); i++) {
            On call = calls.get(i);
            Drumline x = rich();
            unchanged("call " + i, x, due, call);
        }
    }

    private static void unchanged(String what, Drumline x, Class<? extends RuntimeException> due, On call) {
        String before = Snapshot.of(x);
        Check.fails(what, due, () -> call.answer(x));
        Check.same(what + " changes nothing", Snapshot.of(x), before);
    }

    /** A machine with a full source that is assembled and has run, a full deck and a wrong word. */
    private static Drumline rich() {
        Drumline x = new Drumline();
        for (int i = 0; i < 8; i++) {
            x.addDatum(i * 1000 - 3000);
        }
        x.addLine(12, 1, 1);
        x.addLine(71, 2, 2);
        x.addLine(30, 3, 3);
        x.addLine(71, 4, 4);
        for (int i = 4; i < 16; i++) {
            x.addLine(50 + i % 3, i, (i + 1) % 16);
        }
        for (int i = 0; i < 20; i++) {
            x.addCard(i);
        }
        x.assemble(true);
        x.run(9);
        x.fault(38, 4, 2);
        return x;
    }

    private static void unassembled() {
        Drumline x = new Drumline();
        x.addDatum(1);
        x.addLine(10, 0, 1);
        unchanged("assemble", x, NoSuchElementException.class, y -> y.assemble(true));
        Drumline z = new Drumline();
        z.addDatum(1);
        z.addLine(10, 0, 1);
        unchanged("foretold", z, NoSuchElementException.class, y -> y.foretold(true));
        Drumline w = new Drumline();
        w.addDatum(1);
        w.addLine(10, 0, 0);
        unchanged("placeOf", w, IllegalStateException.class, y -> y.placeOf(0));
        Drumline v = new Drumline();
        v.addDatum(1);
        v.addLine(10, 0, 0);
        unchanged("placeOfDatum", v, IllegalStateException.class, y -> y.placeOfDatum(0));
    }

    private static void empty() {
        unchanged("assemble", new Drumline(), IllegalStateException.class, y -> y.assemble(false));
        unchanged("foretold", new Drumline(), IllegalStateException.class, y -> y.foretold(false));
        unchanged("waitShare", new Drumline(), ArithmeticException.class, y -> y.waitShare());
        unchanged("meanPunched", new Drumline(), ArithmeticException.class, y -> y.meanPunched());
        unchanged("placeOf", new Drumline(), IndexOutOfBoundsException.class, y -> y.placeOf(0));
        unchanged("placeOfDatum", new Drumline(), IndexOutOfBoundsException.class, y -> y.placeOfDatum(0));
        unchanged("punchedAt", new Drumline(), IndexOutOfBoundsException.class, y -> y.punchedAt(0));
    }
}
