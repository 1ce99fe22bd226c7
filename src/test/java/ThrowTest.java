import java.util.ArrayList;
import java.util.List;
import java.util.NoSuchElementException;

/**
 * Every call that is refused, at each edge and in several states: of several exceptions the one that is documented
 * first is thrown, and nothing is changed, which an equal object tells that was not asked.
 */
public final class ThrowTest {
    /** A call on an object that is given. */
    private interface On {
        Object answer(Drumline x);
    }

    /** Makes an object in some state. */
    private interface Maker {
        Drumline make();
    }

    private static final Class<IndexOutOfBoundsException> INDEX = IndexOutOfBoundsException.class;
    private static final Class<IllegalArgumentException> ARGUMENT = IllegalArgumentException.class;
    private static final Class<IllegalStateException> STATE = IllegalStateException.class;
    private static final Class<NoSuchElementException> ELEMENT = NoSuchElementException.class;
    private static final Class<ArithmeticException> ARITHMETIC = ArithmeticException.class;
    private static final int[] ENDS = {Integer.MIN_VALUE, Integer.MAX_VALUE};
    private static final long[] NO_WORDS = {Code.NO_WORD, -Code.NO_WORD, Long.MIN_VALUE, Long.MAX_VALUE};

    public static void main(String[] args) {
        Maker[] makers = {Drumline::new, ThrowTest::busy, ThrowTest::full, ThrowTest::stopped};
        for (Maker maker : makers) {
            refused("address", maker, INDEX, addresses());
            refused("argument", maker, ARGUMENT, arguments());
            refused("line", maker, ARGUMENT, lines());
        }
        refused("nothing there", Drumline::new, INDEX, places(0, 0, 0));
        refused("beyond", ThrowTest::busy, INDEX, places(2, 2, 1));
        refused("beyond", ThrowTest::full, INDEX, places(1, 16, 8));
        refused("full", ThrowTest::full, STATE, additions());
        refused("no lines", Drumline::new, STATE, assembling());
        refused("data alone", ThrowTest::dataAlone, STATE, assembling());
        refused("missing", ThrowTest::missing, ELEMENT, assembling());
        refused("unassembled", ThrowTest::missing, STATE, placing());
        refused("unassembled", ThrowTest::changed, STATE, placing());
        refused("none", Drumline::new, ARITHMETIC, figures());
        refused("none", ThrowTest::dataAlone, ARITHMETIC, figures());
        Check.close();
    }

    private static void refused(String what, Maker maker, Class<? extends RuntimeException> due, List<On> calls) {
        Drumline twin = maker.make();
        String before = Snapshot.of(twin);
        String within = Snapshot.within(twin);
        for (int i = 0; i < calls.size(); i++) {
            On call = calls.get(i);
            Drumline x = maker.make();
            Check.fails(what + " " + i, due, () -> call.answer(x));
            Check.same(what + " " + i + " changes nothing", Snapshot.of(x), before);
            Check.same(what + " " + i + " changes nothing within", Snapshot.within(x), within);
        }
    }

    /** A machine in the middle of a program, with an assembled source, some cards and a wired panel. */
    private static Drumline busy() {
        Drumline x = Code.overflowed();
        x.put(3, Code.of(71, 22, 4));
        x.put(4, Code.of(70, 20, 5));
        x.put(5, Code.of(71, 22, 6));
        x.put(6, Code.of(30, 20, 7));
        x.put(7, Code.of(12, 22, 6));
        for (int i = 0; i < 4; i++) {
            x.addCard(1000000001L * i);
        }
        x.wire(3, 10);
        x.wire(4, 0);
        x.addDatum(-17);
        x.addLine(12, 0, 1);
        x.addLine(99, 0, 0);
        x.run(3);
        x.fault(30, 2, 5);
        x.start(4);
        x.run(1);
        x.assemble(true);
        return x;
    }

    /** A machine with a full source that is assembled and has run, a full deck and a wrong word. */
    private static Drumline full() {
        Drumline x = new Drumline();
        for (int i = 0; i < 8; i++) {
            x.addDatum(i * 1000 - 3000);
        }
        x.addLine(12, 1, 1);
        x.addLine(71, 2, 2);
        x.addLine(30, 3, 3);
        x.addLine(40, 4, 4);
        for (int i = 4; i < 16; i++) {
            x.addLine(50 + i % 3, i, (i + 1) % 16);
        }
        for (int i = 0; i < 20; i++) {
            x.addCard(i);
        }
        x.assemble(true);
        x.run(9);
        x.fault(38, 4, 2);
        return x;
    }

    /** A machine that stands at a stop, with an overflow that is noted. */
    private static Drumline stopped() {
        Drumline x = Code.overflowed();
        x.put(3, Code.of(71, 22, 4));
        x.put(4, Code.of(31, 5, 4));
        x.run(100);
        x.addLine(40, 1, 0);
        return x;
    }

    /** Data, cards, and nothing that was done. */
    private static Drumline dataAlone() {
        Drumline x = new Drumline();
        x.addDatum(4);
        x.addCard(4);
        return x;
    }

    /** A line and a datum, assembled, and then a line that refers to a datum that is not there. */
    private static Drumline missing() {
        Drumline x = changed();
        x.addLine(20, 1, 0);
        return x;
    }

    /** A source that was changed by a line since it was assembled. */
    private static Drumline changed() {
        Drumline x = new Drumline();
        x.addDatum(5);
        x.addLine(10, 0, 0);
        x.assemble(true);
        x.put(39, 6);
        x.addLine(40, 1, 0);
        return x;
    }

    /** Addresses below 0 and beyond 39, with words, digits and values that are right and wrong. */
    private static List<On> addresses() {
        List<On> calls = new ArrayList<>();
        for (int address : new int[] {-1, 40, ENDS[0], ENDS[1]}) {
            calls.add(x -> x.put(address, 5));
            calls.add(x -> x.put(address, Code.NO_WORD));
            calls.add(x -> x.put(address, -Code.NO_WORD));
            calls.add(x -> x.word(address));
            calls.add(x -> x.fault(address, 1, 3));
            calls.add(x -> x.fault(address, 0, 3));
            calls.add(x -> x.fault(address, 11, 10));
            calls.add(x -> x.fault(address, 1, -1));
            calls.add(x -> x.isGood(address));
            calls.add(x -> x.start(address));
        }
        return calls;
    }

    /** Words, digits, values, columns, cards and steps that are one beyond their ends, or far. */
    private static List<On> arguments() {
        List<On> calls = new ArrayList<>();
        for (long word : NO_WORDS) {
            calls.add(x -> x.put(0, word));
            calls.add(x -> x.put(39, word));
            calls.add(x -> x.addCard(word));
            calls.add(x -> x.addDatum(word));
        }
        calls.add(x -> x.addCard(-1));
        calls.add(x -> x.addCard(-Code.BIG));
        for (int digit : new int[] {0, 11, ENDS[0], ENDS[1]}) {
            calls.add(x -> x.fault(0, digit, 3));
            calls.add(x -> x.fault(39, digit, 10));
            calls.add(x -> x.wire(digit, 1));
            calls.add(x -> x.wire(digit, 11));
        }
        for (int value : new int[] {-1, 10, ENDS[0], ENDS[1]}) {
            calls.add(x -> x.fault(0, 1, value));
            calls.add(x -> x.fault(39, 10, value));
        }
        for (int column : new int[] {-1, 11, ENDS[0], ENDS[1]}) {
            calls.add(x -> x.wire(1, column));
            calls.add(x -> x.wire(10, column));
        }
        for (int steps : new int[] {0, 101, -1, ENDS[0], ENDS[1]}) {
            calls.add(x -> x.run(steps));
        }
        return calls;
    }

    /** Operations, references and lines that come next, one beyond their ends. */
    private static List<On> lines() {
        List<On> calls = new ArrayList<>();
        for (int operation : new int[] {60, 0, 9, 13, 19, 21, 29, 32, 39, 43, 49, 53, 69, 72, 98, 100, -10, ENDS[0], ENDS[1]}) {
            calls.add(x -> x.addLine(operation, 1, 0));
        }
        for (int operation : Code.OPERATIONS) {
            calls.add(x -> x.addLine(operation, 1, -1));
            calls.add(x -> x.addLine(operation, 1, 16));
        }
        for (int operation : new int[] {10, 11, 12, 20, 30, 31, 70, 71}) {
            calls.add(x -> x.addLine(operation, -1, 0));
            calls.add(x -> x.addLine(operation, 8, 0));
        }
        for (int operation = 40; operation <= 42; operation++) {
            int shift = operation;
            calls.add(x -> x.addLine(shift, 0, 0));
            calls.add(x -> x.addLine(shift, 10, 0));
        }
        for (int operation = 50; operation <= 52; operation++) {
            int branch = operation;
            calls.add(x -> x.addLine(branch, -1, 0));
            calls.add(x -> x.addLine(branch, 16, 0));
        }
        return calls;
    }

    /** Indexes that are not there. */
    private static List<On> places(int punched, int lines, int data) {
        List<On> calls = new ArrayList<>();
        for (int i = 0; i < 4; i++) {
            int index = i == 0 ? -1 : i == 1 ? punched : ENDS[i - 2];
            int line = i == 0 ? -1 : i == 1 ? lines : ENDS[i - 2];
            int datum = i == 0 ? -1 : i == 1 ? data : ENDS[i - 2];
            calls.add(x -> x.punchedAt(index));
            calls.add(x -> x.placeOf(line));
            calls.add(x -> x.placeOfDatum(datum));
        }
        return calls;
    }

    private static List<On> additions() {
        List<On> calls = new ArrayList<>();
        calls.add(x -> x.addCard(0));
        calls.add(x -> x.addCard(Code.BIG));
        calls.add(x -> x.addDatum(0));
        calls.add(x -> x.addDatum(-Code.BIG));
        calls.add(x -> x.addLine(99, 0, 0));
        calls.add(x -> x.addLine(10, 7, 15));
        return calls;
    }

    private static List<On> assembling() {
        List<On> calls = new ArrayList<>();
        for (boolean isPlaced : new boolean[] {false, true}) {
            calls.add(x -> x.assemble(isPlaced));
            calls.add(x -> x.foretold(isPlaced));
        }
        return calls;
    }

    private static List<On> placing() {
        List<On> calls = new ArrayList<>();
        calls.add(x -> x.placeOf(0));
        calls.add(x -> x.placeOf(1));
        calls.add(x -> x.placeOfDatum(0));
        return calls;
    }

    private static List<On> figures() {
        List<On> calls = new ArrayList<>();
        calls.add(x -> x.waitShare());
        calls.add(x -> x.meanPunched());
        return calls;
    }
}
