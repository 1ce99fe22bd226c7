/** The edges of words, of the drum and of faults, sentence by sentence: promises 1 to 5 and 27. */
public final class WordEdgeTest {
    private static final long[] WORDS = {0, 1, -1, 9, -9, 10, 2147483647, 2147483648L, -2147483648L, -2147483649L,
        4294967295L, 4294967296L, 4294967301L, 999999999, 1000000000, -1000000000, Code.BIG - 1, Code.BIG,
        1 - Code.BIG, -Code.BIG};
    private static final long[] NO_WORDS = {Code.NO_WORD, -Code.NO_WORD, Code.NO_WORD + 1, -Code.NO_WORD - 1,
        1L << 40, -(1L << 40), (1L << 40) + 5, Long.MAX_VALUE, Long.MIN_VALUE, Long.MIN_VALUE + 1};
    private static final int[] NO_ADDRESSES = {-1, 40, 41, -10, 100, 256, 65536, Integer.MAX_VALUE, Integer.MIN_VALUE};

    public static void main(String[] args) {
        leastAndGreatestWord();
        noWords();
        addresses();
        noAddresses();
        allZeroAtFirst();
        firstAndLastDigit();
        digitsOfFaults();
        noDigits();
        noValues();
        signOfZero();
        checkDigitWrapsAround();
        oneFaultIsAlwaysFound();
        writingPutsRight();
        writingWhatIsThere();
        faultToTheSameDigit();
        sumAtFirst();
        sumByRisingAddresses();
        sumWrapsAround();
        Check.close();
    }

    /** "It is told as a number from -9999999999 to 9999999999"; put "Returns the word before". */
    private static void leastAndGreatestWord() {
        Drumline x = new Drumline();
        long before = 0;
        for (long word : WORDS) {
            Check.number("2 the word before", x.put(17, word), before);
            Check.number("3 word", x.word(17), word);
            Check.same("5 good", x.isGood(17), true);
            before = word;
        }
    }

    /** "Throws IllegalArgumentException if it is no word": one beyond, on each side. */
    private static void noWords() {
        Drumline x = new Drumline();
        x.put(17, -55);
        x.fault(17, 10, 4);
        for (long word : NO_WORDS) {
            Check.fails("2 no word " + word, IllegalArgumentException.class, () -> x.put(17, word));
            Check.number("3 unchanged", x.word(17), -54);
            Check.same("5 unchanged", x.isGood(17), false);
        }
        Check.number("27 unchanged elsewhere", x.put(17, 0), -54);
        Check.number("27 unchanged elsewhere", x.checksum(), 0);
    }

    /** "The address of the place p, 0 to 9, in the band b, 0 to 3, is 10 b plus p": 40 words, none for two. */
    private static void addresses() {
        Drumline x = new Drumline();
        for (int address = 39; address >= 0; address--) {
            Check.number("2 nothing there yet", x.put(address, 1000 + address), 0);
        }
        for (int address = 0; address < 40; address++) {
            Check.number("3 its own word", x.word(address), 1000 + address);
            Check.number("4 its own digit", x.fault(address, 7, 2), 1);
        }
        for (int address = 0; address < 40; address++) {
            Check.number("3 its own word", x.word(address), 2000 + address);
            Check.same("5 its own check digit", x.isGood(address), false);
            x.put(address, 1);
            Check.same("5 its own check digit", x.isGood(address), true);
        }
    }

    /** "Throws IndexOutOfBoundsException if there is no such address", ahead of what else is wrong. */
    private static void noAddresses() {
        Drumline x = new Drumline();
        Class<? extends RuntimeException> due = IndexOutOfBoundsException.class;
        for (int address : NO_ADDRESSES) {
            Check.fails("2 " + address, due, () -> x.put(address, 0));
            Check.fails("2 first " + address, due, () -> x.put(address, Code.NO_WORD));
            Check.fails("3 " + address, due, () -> x.word(address));
            Check.fails("4 " + address, due, () -> x.fault(address, 1, 0));
            Check.fails("4 first " + address, due, () -> x.fault(address, 0, 0));
            Check.fails("4 first " + address, due, () -> x.fault(address, 1, 10));
            Check.fails("5 " + address, due, () -> x.isGood(address));
        }
    }

    /** "All words are 0 at first." */
    private static void allZeroAtFirst() {
        Drumline x = new Drumline();
        for (int address = 0; address < 40; address++) {
            Check.number("3 at first", x.word(address), 0);
            Check.same("5 at first", x.isGood(address), true);
            Check.number("2 at first", x.put(address, address), 0);
        }
    }

    /** "Its digits are numbered from 1, the first one, to 10." */
    private static void firstAndLastDigit() {
        Drumline x = new Drumline();
        x.put(0, 1023456789L);
        Check.number("4 the first", x.fault(0, 1, 7), 1);
        Check.number("3 the first", x.word(0), 7023456789L);
        Check.number("4 the last", x.fault(0, 10, 0), 9);
        Check.number("3 the last", x.word(0), 7023456780L);
        x.put(39, -8023456781L);
        Check.number("4 the first below 0", x.fault(39, 1, 0), 8);
        Check.number("3 the first below 0", x.word(39), -23456781);
        Check.number("4 the last below 0", x.fault(39, 10, 9), 1);
        Check.number("3 the last below 0", x.word(39), -23456789);
        Check.number("4 a first digit that isn't told", x.fault(39, 1, 9), 0);
        Check.number("3 a first digit that isn't told", x.word(39), -9023456789L);
    }

    /** "Makes a digit of a word on the drum another one": from each value to each value, at each digit. */
    private static void digitsOfFaults() {
        for (int digit = 1; digit <= 10; digit++) {
            Drumline x = new Drumline();
            x.put(5, -Code.BIG);
            int before = 9;
            long unit = 1;
            for (int i = digit; i < 10; i++) {
                unit *= 10;
            }
            for (int i = 0; i < 40; i++) {
                int value = i * 7 % 10;
                Check.number("4 the digit before", x.fault(5, digit, value), before);
                Check.number("3 behind a fault", x.word(5), -Code.BIG + (9 - value) * unit);
                Check.same("5 behind a fault", x.isGood(5), value == 9);
                before = value;
            }
        }
    }

    /** "Throws IllegalArgumentException if there is no such digit": 0 and 11. */
    private static void noDigits() {
        Drumline x = new Drumline();
        x.put(5, 1234567890);
        for (int digit : new int[] {0, 11, -1, 12, Integer.MAX_VALUE, Integer.MIN_VALUE}) {
            Check.fails("4 digit " + digit, IllegalArgumentException.class, () -> x.fault(5, digit, 5));
        }
        Check.number("3 unchanged", x.word(5), 1234567890);
        Check.same("5 unchanged", x.isGood(5), true);
    }

    /** "Or the value is out of range": -1 and 10. */
    private static void noValues() {
        Drumline x = new Drumline();
        x.put(5, 1234567890);
        for (int value : new int[] {-1, 10, 11, Integer.MAX_VALUE, Integer.MIN_VALUE}) {
            Check.fails("4 value " + value, IllegalArgumentException.class, () -> x.fault(5, 1, value));
            Check.fails("4 value " + value, IllegalArgumentException.class, () -> x.fault(5, 10, value));
        }
        Check.number("3 unchanged", x.word(5), 1234567890);
        Check.same("5 unchanged", x.isGood(5), true);
    }

    /** "The sign of 0 is that of a number not less than 0": a fault to 0 loses the sign, 0 by any way is above -1. */
    private static void signOfZero() {
        Drumline x = new Drumline();
        x.put(5, -5);
        x.fault(5, 10, 0);
        Check.number("3 zero", x.word(5), 0);
        x.fault(5, 1, 3);
        Check.number("3 no sign any more", x.word(5), 3000000000L);
        x.put(5, -5);
        x.fault(5, 10, 6);
        x.fault(5, 10, 1);
        Check.number("3 the sign stays else", x.word(5), -1);
        x.fault(5, 9, 4);
        Check.number("3 the sign of the greatest word below 0 stays", x.word(5), -41);
        zero("11", Code.did(11, 7, -6, -6));
        zero("10 over", Code.did(10, 7, -Code.BIG, -1));
        zero("30", Code.did(30, 7, -6, 0));
        zero("30 of 0", Code.did(30, 7, 0, -6));
        zero("30 tail alone", Code.did(30, 7, -100000, 100000));
        zero("31", Code.did(31, 0, -6, 7));
        zero("40", Code.shifted(40, -2000000000L, 1));
        zero("41", Code.shifted(41, -2, 1));
        zero("42", Code.shifted(42, -4, 1));
    }

    /** The accumulator is 0 without a sign: it goes by 50, not by 51, and a digit that comes by a fault has none. */
    private static void zero(String what, Drumline x) {
        Check.number("13 zero " + what, x.accumulator(), 0);
        x.put(4, Code.of(51, 30, 5));
        x.put(5, Code.of(50, 6, 31));
        x.put(6, Code.of(20, 33, 7));
        Check.number("12 zero " + what, x.run(3), '-');
        Check.number("15 zero " + what, x.next(), 7);
        x.fault(33, 10, 8);
        Check.number("3 zero " + what, x.word(33), 8);
    }

    /** "Each word on the drum has a check digit, the sum of its digits modulo 10." */
    private static void checkDigitWrapsAround() {
        Drumline x = new Drumline();
        x.put(5, 11);
        x.fault(5, 9, 6);
        x.fault(5, 10, 6);
        Check.same("5 a sum that is 10 more", x.isGood(5), true);
        x.fault(5, 10, 5);
        Check.same("5 a sum that is 9 more", x.isGood(5), false);
        x.fault(5, 10, 7);
        Check.same("5 a sum that is 11 more", x.isGood(5), false);
        x.put(5, Code.BIG);
        for (int digit = 1; digit <= 9; digit++) {
            x.fault(5, digit, 0);
            Check.same("5 one digit less", x.isGood(5), false);
        }
        x.fault(5, 10, 0);
        Check.number("3 all digits less", x.word(5), 0);
        Check.same("5 a sum of 90 and one of 0", x.isGood(5), true);
        x.put(5, -Code.BIG);
        Check.same("5 below 0", x.isGood(5), true);
        x.fault(5, 3, 8);
        Check.same("5 below 0", x.isGood(5), false);
        x.put(5, -1);
        x.fault(5, 10, 2);
        x.fault(5, 9, 9);
        Check.same("5 two faults below 0, up to -92", x.isGood(5), true);
        x.put(5, -92);
        x.fault(5, 9, 0);
        x.fault(5, 10, 1);
        Check.same("5 two faults below 0, up to -1", x.isGood(5), true);
    }

    /** "A fault in one digit is never taken for a good word." */
    private static void oneFaultIsAlwaysFound() {
        for (int digit = 1; digit <= 10; digit++) {
            Drumline x = new Drumline();
            for (int value = 0; value <= 9; value++) {
                x.put(5, 1234567890);
                int before = x.fault(5, digit, value);
                Check.same("5 one fault", x.isGood(5), before == value);
            }
        }
    }

    /** "Writing a word puts its check digit right": by put, by 20, by 70 and by assembling. */
    private static void writingPutsRight() {
        Drumline x = Code.with(Code.of(20, 5, 1), Code.of(70, 6, 2));
        x.addCard(4);
        for (int address : new int[] {5, 6, 9, 20, 21}) {
            x.fault(address, 1, 1);
            Check.same("5 wrong", x.isGood(address), false);
        }
        x.put(9, 1000000000);
        Check.same("5 put", x.isGood(9), true);
        x.run(2);
        Check.same("5 by 20", x.isGood(5), true);
        Check.same("5 by 70", x.isGood(6), true);
        x.fault(0, 1, 1);
        x.fault(1, 1, 9);
        x.addDatum(9);
        x.addLine(99, 0, 0);
        x.assemble(true);
        Check.same("5 a line", x.isGood(0), true);
        Check.same("5 a datum", x.isGood(1), true);
        Check.same("5 no others", x.isGood(20), false);
    }

    /** The same for a word that reads as the one that is written, with the check digit of another. */
    private static void writingWhatIsThere() {
        Drumline x = Code.with(Code.of(12, 5, 1), Code.of(20, 6, 2), Code.of(70, 7, 3));
        x.put(5, -42);
        x.addCard(31);
        wrong(x, 6, -42);
        wrong(x, 7, 31);
        wrong(x, 8, 9);
        x.run(3);
        Check.number("2 the same word", x.put(8, 9), 9);
        Check.number("3 the same word by 20", x.word(6), -42);
        Check.number("3 the same word by 70", x.word(7), 31);
        for (int address = 6; address <= 8; address++) {
            Check.same("5 the same word at " + address, x.isGood(address), true);
        }
        Drumline y = new Drumline();
        y.addDatum(-8);
        y.addDatum(0);
        y.addLine(99, 0, 0);
        wrong(y, 0, Code.of(99, 0, 0));
        wrong(y, 1, -8);
        wrong(y, 2, 0);
        y.assemble(false);
        for (int address = 0; address <= 2; address++) {
            Check.same("5 the same word assembled at " + address, y.isGood(address), true);
        }
    }

    /** Makes a word read as the one that is told, with a check digit that isn't right. */
    private static void wrong(Drumline x, int address, long word) {
        int last = (int) (Math.abs(word) % 10);
        long magnitude = Math.abs(word) - last + (last + 1) % 10;
        x.put(address, word < 0 ? -magnitude : magnitude);
        x.fault(address, 10, last);
        Check.number("3 a wrong word", x.word(address), word);
        Check.same("5 a wrong word", x.isGood(address), false);
    }

    /** A fault "leaves its check digit", one that makes a digit what it is as well. */
    private static void faultToTheSameDigit() {
        Drumline x = new Drumline();
        wrong(x, 5, -1234567890);
        for (int digit = 1; digit <= 10; digit++) {
            Check.number("4 the same digit", x.fault(5, digit, digit % 10), digit % 10);
            Check.same("5 the same digit", x.isGood(5), false);
        }
        x.fault(5, 10, 1);
        Check.same("5 the digit that was written", x.isGood(5), true);
    }

    /** checksum "Returns 0 at first": the sum over nothing but zeros. */
    private static void sumAtFirst() {
        Drumline x = new Drumline();
        Check.number("27 at first", x.checksum(), 0);
        x.put(0, 1);
        x.put(0, 0);
        Check.number("27 zeros", x.checksum(), 0);
    }

    /** "Then for each word by rising addresses 31 times itself plus the word." */
    private static void sumByRisingAddresses() {
        Drumline x = new Drumline();
        x.put(39, 3);
        Check.number("27 the last", x.checksum(), 3);
        x.put(38, 5);
        Check.number("27 the last two", x.checksum(), 5 * 31 + 3);
        x.put(37, -1);
        Check.number("27 the last three", x.checksum(), -31 * 31 + 5 * 31 + 3);
        x.fault(39, 10, 4);
        Check.number("27 words as they are told", x.checksum(), -31 * 31 + 5 * 31 + 4);
    }

    /** The same beyond what a long holds: each address counts with its own power of 31. */
    private static void sumWrapsAround() {
        long power = 1;
        for (int address = 39; address >= 0; address--) {
            Drumline x = new Drumline();
            x.put(address, 1);
            Check.number("27 power " + address, x.checksum(), power);
            x.put(address, -Code.BIG);
            Check.number("27 least " + address, x.checksum(), -Code.BIG * power);
            power *= 31;
        }
        Drumline x = new Drumline();
        long due = 0;
        for (int address = 0; address < 40; address++) {
            x.put(address, Code.BIG);
            due = 31 * due + Code.BIG;
        }
        Check.number("27 full", x.checksum(), due);
    }
}
