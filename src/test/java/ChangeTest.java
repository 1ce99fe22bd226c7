import java.util.ArrayList;
import java.util.Arrays;
import java.util.LinkedHashMap;
import java.util.List;
import java.util.Map;

/**
 * Each call and each operation in several states: what it isn't said to change stays as it is, which an equal object
 * tells that was not asked; what an operation writes or takes is compared with what a call of the face does.
 */
public final class ChangeTest {
    /** A call on an object that is given. */
    private interface On {
        Object answer(Drumline x);
    }

    /** Makes an object in some state. */
    private interface Maker {
        Drumline make();
    }

    private static final String[] NOTHING = {};

    public static void main(String[] args) {
        isReady();
        for (Maker maker : new Maker[] {Drumline::new, ChangeTest::busy, ChangeTest::assembled, ChangeTest::stopped}) {
            questions(maker);
            changes(maker);
        }
        for (int operation : Code.OPERATIONS) {
            done(operation);
            stopped(operation);
        }
        written();
        Check.close();
    }

    /** What an object holds, part by part; asks some 200 of its 512 calls. */
    private static Map<String, String> parts(Drumline x) {
        Map<String, String> parts = new LinkedHashMap<>();
        StringBuilder drum = new StringBuilder();
        for (int address = 0; address < 40; address++) {
            drum.append(x.word(address)).append(x.isGood(address) ? " " : "! ");
        }
        parts.put("drum", drum.toString());
        StringBuilder punches = new StringBuilder();
        int punched = x.punched();
        for (int index = 0; index < punched && index < 20; index++) {
            punches.append(x.punchedAt(index)).append(' ');
        }
        parts.put("punches", punches.append(punched).toString());
        parts.put("accumulator", "" + x.accumulator());
        parts.put("extension", "" + x.extension());
        parts.put("overflow", "" + x.isOverflow());
        parts.put("next", "" + x.next());
        parts.put("beats", x.beat() + " " + x.waits());
        parts.put("done", "" + x.done());
        StringBuilder places = new StringBuilder();
        for (int number = 0; number < 16; number++) {
            int line = number;
            places.append(Check.outcome(() -> x.placeOf(line))).append(' ');
            if (line < 8) {
                places.append(Check.outcome(() -> x.placeOfDatum(line))).append(' ');
            }
        }
        parts.put("places", places.toString());
        used(x, parts);
        return parts;
    }

    /** What is told only by using it up: the source, the panel and the cards. */
    private static void used(Drumline x, Map<String, String> parts) {
        StringBuilder source = new StringBuilder();
        for (int address = 0; address < 24; address++) {
            x.put(address, -1);
        }
        source.append(Check.outcome(() -> x.assemble(false))).append(' ');
        for (int address = 0; address < 24; address++) {
            source.append(x.word(address)).append(' ');
        }
        parts.put("source", source.append(x.clearSource()).toString());
        StringBuilder panel = new StringBuilder();
        for (int digit = 1; digit <= 10; digit++) {
            panel.append(x.wire(digit, digit)).append(' ');
        }
        parts.put("panel", panel.toString());
        StringBuilder cards = new StringBuilder();
        x.put(0, Code.of(70, 1, 0));
        int left = x.cards();
        x.start(0);
        for (int i = 0; i < left && i < 20; i++) {
            cards.append(x.run(1)).append(x.word(1)).append(' ');
        }
        parts.put("cards", cards.append(left).toString());
    }

    /** All parts but those that are named are the same. */
    private static void changed(String what, Maker maker, On call, String... names) {
        Drumline x = maker.make();
        String answer = Check.outcome(() -> call.answer(x));
        Map<String, String> due = parts(maker.make());
        Map<String, String> got = parts(x);
        List<String> may = Arrays.asList(names);
        for (String name : due.keySet()) {
            if (!may.contains(name)) {
                Check.same(what + " (" + answer + ") leaves " + name, got.get(name), due.get(name));
            }
        }
    }

    /** Words, cards, a panel, punched words, an overflow that is noted, a program, and a source that isn't assembled. */
    private static Drumline busy() {
        Drumline x = ready();
        x.put(5, Code.of(71, 24, 6));
        x.put(6, Code.of(70, 25, 6));
        x.run(2);
        return x;
    }

    /** The same with a source that is assembled, whose lines are the program. */
    private static Drumline assembled() {
        Drumline x = ready();
        x.assemble(true);
        x.start(0);
        x.run(2);
        x.fault(x.placeOf(1), 8, 5);
        return x;
    }

    private static Drumline stopped() {
        Drumline x = ready();
        x.put(5, Code.of(31, 35, 6));
        x.run(9);
        return x;
    }

    /**
     * A machine of which 6 instructions were done, and which stands at 5: an extension of 77, an accumulator of -6, an
     * overflow that is noted, two punched words, three cards on a panel, a wrong word and a source.
     */
    private static Drumline ready() {
        Drumline x = Code.with(Code.of(71, 24, 1), Code.of(12, 20, 2), Code.of(31, 21, 3), Code.of(12, 21, 4),
                Code.of(10, 21, 6), 0, Code.of(12, 23, 5));
        x.put(20, 77);
        x.put(21, Code.BIG);
        x.put(23, -6);
        x.put(24, 31);
        x.put(25, -4);
        x.fault(38, 2, 3);
        x.addDatum(-17);
        x.addDatum(3);
        x.addLine(12, 1, 1);
        x.addLine(71, 0, 2);
        x.addLine(99, 0, 1);
        x.wire(3, 10);
        x.wire(4, 0);
        for (int i = 1; i <= 3; i++) {
            x.addCard(1234567890L * i);
        }
        x.run(1);
        x.start(0);
        x.run(6);
        x.put(6, 0);
        return x;
    }

    /** The state that the comment above tells. */
    private static void isReady() {
        Drumline x = ready();
        Check.number("15 ready", x.next(), 5);
        Check.number("13 ready", x.accumulator(), -6);
        Check.number("14 ready", x.extension(), 77);
        Check.same("16 ready", x.isOverflow(), true);
        Check.number("9 ready", x.punched(), 2);
        Check.number("8 ready", x.cards(), 3);
        Check.number("19 ready", x.done(), 6);
        Check.same("5 ready", x.isGood(38), false);
    }

    /** Calls that only ask. */
    private static void questions(Maker maker) {
        List<On> calls = new ArrayList<>();
        calls.add(x -> x.word(38));
        calls.add(x -> x.isGood(38));
        calls.add(x -> x.cards());
        calls.add(x -> x.punched());
        calls.add(x -> x.punchedAt(0));
        calls.add(x -> x.accumulator());
        calls.add(x -> x.extension());
        calls.add(x -> x.next());
        calls.add(x -> x.isOverflow());
        calls.add(x -> x.beat());
        calls.add(x -> x.waits());
        calls.add(x -> x.done());
        calls.add(x -> x.placeOf(1));
        calls.add(x -> x.placeOfDatum(1));
        calls.add(x -> x.foretold(false));
        calls.add(x -> x.foretold(true));
        calls.add(x -> x.checksum());
        calls.add(x -> x.waitShare());
        calls.add(x -> x.meanPunched());
        calls.add(x -> x.isSound());
        for (int i = 0; i < calls.size(); i++) {
            changed("question " + i, maker, calls.get(i), NOTHING);
        }
    }

    /** Calls that change some parts. */
    private static void changes(Maker maker) {
        changed("2 put", maker, x -> x.put(30, -5), "drum");
        changed("2 put where it stands", maker, x -> x.put(x.next(), 5), "drum");
        changed("4 fault", maker, x -> x.fault(24, 1, 8), "drum");
        changed("6 wire", maker, x -> x.wire(4, 9), "panel");
        changed("7 addCard", maker, x -> x.addCard(5), "cards");
        changed("11 start", maker, x -> x.start(2), "accumulator", "extension", "overflow", "next", "beats", "done");
        changed("20 addDatum", maker, x -> x.addDatum(5), "source", "places");
        changed("21 addLine", maker, x -> x.addLine(40, 1, 0), "source", "places");
        changed("22 clearSource", maker, x -> x.clearSource(), "source", "places");
        changed("23 assemble", maker, x -> x.assemble(false), "drum", "places");
        changed("23 assemble", maker, x -> x.assemble(true), "drum", "places");
    }

    /** The parts that an operation may change, but for the instruction that comes next, beats and the count. */
    private static String[] named(int operation) {
        switch (operation) {
            case 10: case 11: case 12: case 40: case 41: case 42:
                return new String[] {"accumulator"};
            case 20:
                return new String[] {"drum"};
            case 30: case 31:
                return new String[] {"accumulator", "extension"};
            case 52:
                return new String[] {"overflow"};
            case 60:
                return new String[] {"extension"};
            case 70:
                return new String[] {"drum", "cards"};
            case 71:
                return new String[] {"punches"};
            default:
                return NOTHING;
        }
    }

    private static Drumline at(int operation, int d, int n) {
        Drumline x = ready();
        x.put(5, Code.of(operation, d, n));
        return x;
    }

    /** One step by an operation, with D = 7, whose word is 9 there, or 8 for a look that finds none. */
    private static void done(int operation) {
        for (int d : new int[] {7, 8}) {
            Maker maker = () -> {
                Drumline x = at(operation, d, 6);
                x.put(7, 9);
                x.put(8, -7);
                x.put(9, -7);
                return x;
            };
            Check.number("12 " + operation, maker.make().run(1), operation == 99 ? 's' : '-');
            List<String> names = new ArrayList<>(Arrays.asList(named(operation)));
            names.add("beats");
            if (operation != 99) {
                names.add("next");
                names.add("done");
            }
            changed("12 " + operation + " at " + d, maker, x -> x.run(1), names.toArray(NOTHING));
        }
    }

    /** A step that comes to a stop changes beats alone. */
    private static void stopped(int operation) {
        changed("12 'i' " + operation, () -> at(operation, 7, 40), x -> x.run(5), "beats");
        changed("12 'f' " + operation, () -> {
            Drumline x = at(operation, 7, 6);
            x.fault(5, 10, 7);
            return x;
        }, x -> x.run(5), "beats");
        boolean reads = operation < 40 && operation != 20 || operation == 60 || operation == 71;
        if (reads) {
            changed("12 'f' of a word " + operation, () -> at(operation, 38, 6), x -> x.run(5), "beats");
        }
    }

    /** 20 and 70 write to D as put does, and nowhere else. */
    private static void written() {
        for (int d = 0; d < 40; d++) {
            for (int operation : new int[] {20, 70}) {
                Drumline x = at(operation, d, 6);
                Check.number("12 " + operation, x.run(1), '-');
                Drumline y = at(operation, d, 6);
                // The panel gives the digit 3 the column 10, and the digit 4 none.
                y.put(d, operation == 20 ? -6 : 1200567890);
                Check.same(operation + " writes to " + d, parts(x).get("drum"), parts(y).get("drum"));
            }
        }
        Drumline x = at(71, 24, 6);
        x.run(1);
        Check.same("71 punches behind the others", parts(x).get("punches"), "31 31 31 3");
        Drumline y = at(70, 24, 6);
        y.run(1);
        Check.same("70 takes the first card", parts(y).get("cards"), "-2469135780 -3703703670 2");
    }
}
