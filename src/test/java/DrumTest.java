/** Promises 1 to 5 and 27: a new object, the words of the drum, and the sum over them. */
public final class DrumTest {
    private static final long BIG = 9999999999L;

    public static void main(String[] args) {
        newObject();
        words();
        faults();
        checks();
        sums();
        Check.close();
    }

    private static void newObject() {
        Drumline x = new Drumline();
        for (int address = 0; address < 40; address++) {
            Check.number("1 word", x.word(address), 0);
            Check.same("1 good", x.isGood(address), true);
        }
        Check.number("1 cards", x.cards(), 0);
        Check.number("1 punched", x.punched(), 0);
        Check.number("1 lines", x.clearSource(), 0);
        Check.number("1 datum", x.addDatum(1), 0);
        Check.number("1 line", x.addLine(99, 0, 0), 0);
        Check.number("1 columns", x.wire(7, 7), 7);
        Check.number("1 accumulator", x.accumulator(), 0);
        Check.number("1 extension", x.extension(), 0);
        Check.number("1 next", x.next(), 0);
        Check.same("1 overflow", x.isOverflow(), false);
        Check.number("1 beat", x.beat(), 0);
        Check.number("1 waits", x.waits(), 0);
        Check.number("1 done", x.done(), 0);
    }

    private static void words() {
        Drumline x = new Drumline();
        for (int address = 0; address < 40; address++) {
            Check.number("2 before", x.put(address, address * 7L - 100), 0);
        }
        for (int address = 0; address < 40; address++) {
            Check.number("3 word", x.word(address), address * 7L - 100);
        }
        Check.number("2 again", x.put(0, BIG), -100);
        Check.number("2 least", x.put(0, -BIG), BIG);
        Check.number("3 least", x.word(0), -BIG);
        Check.number("2 zero", x.put(0, 0), -BIG);
        for (long word : new long[] {BIG + 1, -BIG - 1, Long.MAX_VALUE, Long.MIN_VALUE}) {
            Check.fails("2 no word", IllegalArgumentException.class, () -> x.put(0, word));
            Check.fails("2 address first", IndexOutOfBoundsException.class, () -> x.put(40, word));
        }
        for (int address : new int[] {-1, 40, Integer.MAX_VALUE, Integer.MIN_VALUE}) {
            Check.fails("2 address", IndexOutOfBoundsException.class, () -> x.put(address, 0));
            Check.fails("3 address", IndexOutOfBoundsException.class, () -> x.word(address));
            Check.fails("5 address", IndexOutOfBoundsException.class, () -> x.isGood(address));
            Check.fails("4 address", IndexOutOfBoundsException.class, () -> x.fault(address, 1, 0));
            Check.fails("4 address first", IndexOutOfBoundsException.class, () -> x.fault(address, 0, 10));
        }
        Check.number("3 unchanged", x.word(0), 0);
    }

    private static void faults() {
        Drumline x = new Drumline();
        x.put(39, 1234567890L);
        for (int digit = 1; digit <= 10; digit++) {
            Check.number("4 digit", x.fault(39, digit, digit % 10), digit % 10);
        }
        Check.number("4 same word", x.word(39), 1234567890L);
        Check.number("4 first", x.fault(39, 1, 9), 1);
        Check.number("4 first word", x.word(39), 9234567890L);
        Check.number("4 last", x.fault(39, 10, 7), 0);
        Check.number("4 last word", x.word(39), 9234567897L);
        x.put(3, -30);
        Check.number("4 negative", x.fault(3, 8, 5), 0);
        Check.number("4 negative word", x.word(3), -530);
        Check.number("4 zero", x.fault(3, 8, 0), 5);
        Check.number("4 zero", x.fault(3, 9, 0), 3);
        Check.number("4 sign of 0", x.word(3), 0);
        Check.number("4 from 0", x.fault(3, 9, 3), 0);
        Check.number("4 no sign", x.word(3), 30);
        Check.same("4 right again", x.isGood(3), true);
        int[][] wrong = {{0, 5}, {11, 5}, {-1, 5}, {5, -1}, {5, 10}, {Integer.MIN_VALUE, 0}, {1, Integer.MAX_VALUE}};
        for (int[] pair : wrong) {
            Check.fails("4 range", IllegalArgumentException.class, () -> x.fault(3, pair[0], pair[1]));
        }
        Check.number("4 unchanged", x.word(3), 30);
    }

    private static void checks() {
        Drumline x = new Drumline();
        x.put(10, 55);
        for (int value = 0; value <= 9; value++) {
            x.fault(10, 10, value);
            Check.same("5 one fault", x.isGood(10), value == 5);
        }
        x.fault(10, 10, 6);
        x.fault(10, 9, 4);
        Check.number("5 two faults", x.word(10), 46);
        Check.same("5 two faults that hide", x.isGood(10), true);
        x.fault(10, 9, 1);
        Check.same("5 wrong", x.isGood(10), false);
        Check.same("5 others", x.isGood(11), true);
        x.put(10, 16);
        Check.same("5 a word that is written is right", x.isGood(10), true);
        x.put(10, -BIG);
        Check.same("5 negative", x.isGood(10), true);
        x.fault(10, 1, 8);
        Check.same("5 negative fault", x.isGood(10), false);
    }

    private static void sums() {
        Drumline x = new Drumline();
        Check.number("27 empty", x.checksum(), 0);
        x.put(39, 5);
        Check.number("27 last", x.checksum(), 5);
        x.put(38, -2);
        Check.number("27 last two", x.checksum(), -57);
        x.put(0, BIG);
        long due = 0;
        for (int address = 0; address < 40; address++) {
            due = due * 31 + x.word(address);
        }
        Check.number("27 wraps around", x.checksum(), due);
        x.fault(39, 1, 1);
        Check.number("27 faults too", x.checksum(), due + 1000000000L);
    }
}
