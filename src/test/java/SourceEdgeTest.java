import java.util.NoSuchElementException;

/** The edges of the source and of plain assembling, sentence by sentence: promises 20 to 26 and 30. */
public final class SourceEdgeTest {
    private static final int[] WITH_DATUM = {10, 11, 12, 20, 30, 31, 70, 71};
    private static final int[] WITH_LINE = {50, 51, 52};
    private static final int[] WITH_COUNT = {40, 41, 42};

    public static void main(String[] args) {
        emptySource();
        leastAndGreatestDatum();
        noWords();
        fullOfData();
        operationsOfLines();
        dataOfLines();
        linesOfLines();
        countsOfLines();
        stopsReferToNothing();
        nextLines();
        fullOfLines();
        clearing();
        noLines();
        lineThatComesNextIsMissing();
        lineToGoToIsMissing();
        datumIsMissing();
        plainPlaces();
        wholeDrumTaken();
        writesLinesAndDataAlone();
        writesOverOtherWords();
        leavesWhatItWroteBefore();
        dataOutlastTheDrum();
        wordsOfLines();
        linesOfPlaces();
        dataOfPlaces();
        notAssembledYet();
        notAssembledSinceAChange();
        assembledLast();
        foretellingAlone();
        soundness();
        Check.close();
    }

    private static Drumline data(int count) {
        Drumline x = new Drumline();
        for (int i = 0; i < count; i++) {
            x.addDatum(100 + i);
        }
        return x;
    }

    /** "an empty source": nothing there yet. */
    private static void emptySource() {
        Drumline x = new Drumline();
        Check.fails("24 empty", IndexOutOfBoundsException.class, () -> x.placeOf(0));
        Check.fails("25 empty", IndexOutOfBoundsException.class, () -> x.placeOfDatum(0));
        Check.same("30 empty", x.isSound(), true);
        Check.number("22 empty", x.clearSource(), 0);
        Check.number("20 the first datum", x.addDatum(5), 0);
        Check.number("21 the first line", x.addLine(10, 0, 0), 0);
    }

    /** addDatum: "the word": the least and the greatest. */
    private static void leastAndGreatestDatum() {
        Drumline x = new Drumline();
        long[] words = {Code.BIG, -Code.BIG, 0, -1, 4294967296L, 2147483648L, -2147483649L};
        for (int i = 0; i < words.length; i++) {
            Check.number("20 number", x.addDatum(words[i]), i);
        }
        x.addLine(99, 0, 0);
        x.assemble(false);
        for (int i = 0; i < words.length; i++) {
            Check.number("3 datum", x.word(x.placeOfDatum(i)), words[i]);
            Check.same("5 datum", x.isGood(x.placeOfDatum(i)), true);
        }
    }

    /** addDatum "Throws IllegalArgumentException if it is no word", ahead of 8 data. */
    private static void noWords() {
        long[] wrong = {Code.NO_WORD, -Code.NO_WORD, 1L << 40, Long.MAX_VALUE, Long.MIN_VALUE};
        Drumline x = new Drumline();
        Drumline full = data(8);
        for (long word : wrong) {
            Check.fails("20 " + word, IllegalArgumentException.class, () -> x.addDatum(word));
            Check.fails("20 first " + word, IllegalArgumentException.class, () -> full.addDatum(word));
        }
        Check.number("20 unchanged", x.addDatum(5), 0);
    }

    /** "A source has at most .. 8 data": the 8th goes, the 9th "Throws IllegalStateException". */
    private static void fullOfData() {
        Drumline x = new Drumline();
        for (int i = 0; i < 8; i++) {
            Check.number("20 number", x.addDatum(i), i);
        }
        Check.fails("20 full", IllegalStateException.class, () -> x.addDatum(8));
        x.addLine(12, 7, 0);
        Check.number("23 unchanged", x.assemble(false), 9);
        Check.fails("20 full", IllegalStateException.class, () -> x.addDatum(0));
        Check.number("25 still assembled", x.placeOfDatum(7), 8);
        Check.number("3 the 8th", x.word(8), 7);
        x.clearSource();
        Check.number("20 room again", x.addDatum(8), 0);
    }

    private static void refused(String what, int operation, int reference, int next) {
        Drumline x = data(8);
        Check.fails("21 " + what + " " + operation + " " + reference + " " + next, IllegalArgumentException.class,
                () -> x.addLine(operation, reference, next));
        Check.number("22 unchanged", x.clearSource(), 0);
    }

    private static void accepted(String what, int operation, int reference, int next) {
        Drumline x = new Drumline();
        Check.number("21 " + what + " " + operation, x.addLine(operation, reference, next), 0);
        Check.number("22 one line", x.clearSource(), 1);
    }

    /** addLine "Throws IllegalArgumentException if there is no such operation, it is 60": all from -1 to 100. */
    private static void operationsOfLines() {
        for (int operation = -1; operation <= 100; operation++) {
            boolean isThere = false;
            for (int each : Code.OPERATIONS) {
                isThere |= each == operation && operation != 60;
            }
            if (isThere) {
                accepted("operation", operation, 1, 0);
            } else {
                refused("operation", operation, 1, 0);
            }
        }
        for (int operation : new int[] {110, 1010, 266, 65546, -10, Integer.MAX_VALUE, Integer.MIN_VALUE}) {
            refused("operation", operation, 1, 0);
        }
    }

    /** "a datum, 0 to 7". */
    private static void dataOfLines() {
        for (int operation : WITH_DATUM) {
            for (int datum = 0; datum <= 7; datum++) {
                accepted("datum", operation, datum, 0);
            }
            for (int datum : new int[] {-1, 8, 9, 15, Integer.MAX_VALUE, Integer.MIN_VALUE}) {
                refused("datum", operation, datum, 0);
            }
        }
    }

    /** "For 50 to 52 a line, 0 to 15". */
    private static void linesOfLines() {
        for (int operation : WITH_LINE) {
            for (int line = 0; line <= 15; line++) {
                accepted("line", operation, line, 0);
            }
            for (int line : new int[] {-1, 16, 17, Integer.MAX_VALUE, Integer.MIN_VALUE}) {
                refused("line", operation, line, 0);
            }
        }
    }

    /** "For 40 to 42 a number from 1 to 9". */
    private static void countsOfLines() {
        for (int operation : WITH_COUNT) {
            for (int count = 1; count <= 9; count++) {
                accepted("count", operation, count, 0);
            }
            for (int count : new int[] {0, 10, -1, 11, Integer.MAX_VALUE, Integer.MIN_VALUE}) {
                refused("count", operation, count, 0);
            }
        }
    }

    /** "For 99 of no meaning". */
    private static void stopsReferToNothing() {
        for (int reference : new int[] {0, -1, 8, 16, 99, Integer.MAX_VALUE, Integer.MIN_VALUE}) {
            Drumline x = new Drumline();
            Check.number("21 99", x.addLine(99, reference, 0), 0);
            Check.number("23 99", x.assemble(true), 1);
            Check.number("3 99 has 0", x.word(0), Code.of(99, 0, 0));
            Check.number("26 99", x.foretold(true), 1);
        }
    }

    /** "The number of the line that comes next, 0 to 15", for 99 too. */
    private static void nextLines() {
        for (int operation : Code.OPERATIONS) {
            if (operation != 60) {
                accepted("next", operation, 1, 0);
                accepted("next", operation, 1, 15);
                for (int next : new int[] {-1, 16, 17, 39, Integer.MAX_VALUE, Integer.MIN_VALUE}) {
                    refused("next", operation, 1, next);
                }
            }
        }
    }

    /** "A source has at most 16 lines": the 16th goes, the 17th throws; a line out of range throws first. */
    private static void fullOfLines() {
        Drumline x = new Drumline();
        for (int i = 0; i < 16; i++) {
            Check.number("21 number", x.addLine(51, i, (i + 1) % 16), i);
        }
        Check.fails("21 full", IllegalStateException.class, () -> x.addLine(99, 0, 0));
        Check.fails("21 range first", IllegalArgumentException.class, () -> x.addLine(60, 0, 0));
        Check.fails("21 range first", IllegalArgumentException.class, () -> x.addLine(10, 8, 0));
        Check.fails("21 range first", IllegalArgumentException.class, () -> x.addLine(50, 16, 0));
        Check.fails("21 range first", IllegalArgumentException.class, () -> x.addLine(40, 0, 0));
        Check.fails("21 range first", IllegalArgumentException.class, () -> x.addLine(99, 0, 16));
        Check.number("23 unchanged", x.assemble(false), 16);
        Check.fails("21 full", IllegalStateException.class, () -> x.addLine(99, 0, 0));
        Check.number("24 still assembled", x.placeOf(15), 15);
        Check.number("3 the 16th", x.word(15), Code.of(51, 15, 0));
        Check.number("22 all", x.clearSource(), 16);
        Check.number("21 room again", x.addLine(99, 0, 0), 0);
    }

    /** clearSource "Returns how many lines it had"; lines and data are gone, words on the drum aren't. */
    private static void clearing() {
        for (int lines = 0; lines <= 16; lines++) {
            Drumline x = data(lines % 9);
            for (int i = 0; i < lines; i++) {
                x.addLine(99, 0, 0);
            }
            Check.number("22 lines", x.clearSource(), lines);
            Check.number("22 none then", x.clearSource(), 0);
            Check.fails("23 none then", IllegalStateException.class, () -> x.assemble(true));
            x.addLine(12, 0, 0);
            Check.fails("23 no data then", NoSuchElementException.class, () -> x.assemble(true));
            Check.number("20 from 0", x.addDatum(5), 0);
            Check.number("23 a line and a datum", x.assemble(true), 2);
        }
        Drumline x = data(1);
        x.addLine(12, 0, 0);
        x.assemble(false);
        x.clearSource();
        Check.number("3 words stay", x.word(0), Code.of(12, 1, 0));
        Check.number("3 words stay", x.word(1), 100);
    }

    /** assemble and foretold throw IllegalStateException "if there are no lines", with data or without. */
    private static void noLines() {
        for (int count : new int[] {0, 1, 8}) {
            Drumline x = data(count);
            for (boolean isPlaced : new boolean[] {false, true}) {
                Check.fails("23 no lines", IllegalStateException.class, () -> x.assemble(isPlaced));
                Check.fails("26 no lines", IllegalStateException.class, () -> x.foretold(isPlaced));
            }
            Check.same("30 no lines", x.isSound(), true);
            Check.number("27 nothing written", x.checksum(), 0);
            x.addLine(40, 1, 0);
            Check.number("23 one line", x.assemble(true), 1 + count);
        }
    }

    private static void missing(String what, Drumline x) {
        x.put(0, 77);
        for (boolean isPlaced : new boolean[] {false, true}) {
            Check.fails("23 " + what, NoSuchElementException.class, () -> x.assemble(isPlaced));
            Check.fails("26 " + what, NoSuchElementException.class, () -> x.foretold(isPlaced));
        }
        Check.same("30 " + what, x.isSound(), true);
        Check.number("3 nothing written, " + what, x.put(0, 0), 77);
        Check.number("27 nothing written, " + what, x.checksum(), 0);
        Check.fails("24 not assembled, " + what, IllegalStateException.class, () -> x.placeOf(0));
    }

    private static void whole(String what, Drumline x, int due) {
        Check.number("23 " + what, x.assemble(false), due);
        Check.number("23 " + what, x.assemble(true), due);
        Check.same("30 " + what, x.isSound(), true);
    }

    /** "If a line refers to a line .. that is not there": the one that comes next, of each operation, 99 too. */
    private static void lineThatComesNextIsMissing() {
        for (int operation : Code.OPERATIONS) {
            if (operation != 60) {
                for (int lines = 1; lines <= 15; lines += 7) {
                    Drumline x = data(2);
                    for (int i = 1; i < lines; i++) {
                        x.addLine(99, 0, 0);
                    }
                    x.addLine(operation, operation < 50 || operation > 52 ? 1 : 0, lines);
                    missing("next of " + operation + " is " + lines, x);
                    x.addLine(99, 0, 0);
                    whole("next of " + operation + " is the last", x, lines + 3);
                }
            }
        }
    }

    /** The same for the line that 50 to 52 go to, be they come to or not. */
    private static void lineToGoToIsMissing() {
        for (int operation : WITH_LINE) {
            for (int lines = 1; lines <= 15; lines += 7) {
                Drumline x = new Drumline();
                for (int i = 1; i < lines; i++) {
                    x.addLine(99, 0, 0);
                }
                x.addLine(operation, lines, 0);
                missing(operation + " goes to " + lines, x);
                x.addLine(99, 0, 0);
                whole(operation + " goes to the last", x, lines + 1);
            }
        }
    }

    /** "Or a datum that is not there". */
    private static void datumIsMissing() {
        for (int operation : WITH_DATUM) {
            for (int count = 0; count <= 7; count++) {
                Drumline x = data(count);
                x.addLine(99, 0, 0);
                x.addLine(operation, count, 0);
                missing(operation + " with " + count, x);
                x.addDatum(4);
                whole(operation + " with the last", x, 3 + count);
            }
        }
        for (int operation : WITH_COUNT) {
            Drumline x = new Drumline();
            x.addLine(operation, 9, 0);
            whole(operation + " by 9 without data", x, 1);
        }
    }

    /** "Assembled plainly, lines stand at the addresses from 0 on, data behind them." */
    private static void plainPlaces() {
        for (int lines = 1; lines <= 16; lines += 5) {
            for (int count = 0; count <= 8; count += 4) {
                Drumline x = data(count);
                for (int i = 0; i < lines; i++) {
                    x.addLine(99, 0, lines - 1);
                }
                Check.number("23 taken", x.assemble(false), lines + count);
                for (int i = 0; i < lines; i++) {
                    Check.number("24 plain", x.placeOf(i), i);
                    Check.number("3 plain", x.word(i), Code.of(99, 0, lines - 1));
                }
                for (int i = 0; i < count; i++) {
                    Check.number("25 plain", x.placeOfDatum(i), lines + i);
                    Check.number("3 plain", x.word(lines + i), 100 + i);
                }
            }
        }
    }

    /** assemble "Returns how many addresses are taken": 1 at least, 24 at most, each one by one word. */
    private static void wholeDrumTaken() {
        Drumline y = new Drumline();
        y.addLine(99, 0, 0);
        Check.number("23 least", y.assemble(false), 1);
        Check.number("23 least", y.assemble(true), 1);
        Drumline x = data(8);
        for (int i = 0; i < 16; i++) {
            x.addLine(WITH_DATUM[i % 8], i % 8, (i + 1) % 16);
        }
        for (boolean isPlaced : new boolean[] {false, true}) {
            Check.number("23 greatest", x.assemble(isPlaced), 24);
            long taken = 0;
            for (int i = 0; i < 24; i++) {
                int place = i < 16 ? x.placeOf(i) : x.placeOfDatum(i - 16);
                Check.same("24 an address", place >= 0 && place <= 39, true);
                Check.same("24 free up to then", taken >> place & 1, 0L);
                taken |= 1L << place;
            }
        }
    }

    /** assemble "writes lines and data to the drum", and nothing else, neither there nor in the machine. */
    private static void writesLinesAndDataAlone() {
        Drumline x = Code.overflowed();
        x.addDatum(-3);
        x.addLine(30, 0, 1);
        x.addLine(99, 0, 0);
        x.addCard(4);
        for (int address = 0; address < 40; address++) {
            x.put(address, 5000 + address);
        }
        x.fault(2, 1, 1);
        x.fault(3, 1, 1);
        int beat = x.beat();
        x.assemble(false);
        Check.number("3 line", x.word(0), Code.of(30, 2, 1));
        Check.number("3 line", x.word(1), Code.of(99, 0, 0));
        Check.number("3 datum", x.word(2), -3);
        Check.same("5 datum", x.isGood(2), true);
        Check.same("5 another", x.isGood(3), false);
        Check.number("3 another", x.word(3), 1000005003);
        for (int address = 4; address < 40; address++) {
            Check.number("3 another", x.word(address), 5000 + address);
        }
        Check.number("13 stays", x.accumulator(), 5);
        Check.same("16 stays", x.isOverflow(), true);
        Check.number("15 stays", x.next(), 3);
        Check.number("17 stays", x.beat(), beat);
        Check.number("19 stays", x.done(), 3);
        Check.number("8 stays", x.cards(), 1);
    }

    /** Each datum is written, one of 0 and one that no line uses too. */
    private static void writesOverOtherWords() {
        for (boolean isPlaced : new boolean[] {false, true}) {
            Drumline x = new Drumline();
            for (int address = 0; address < 40; address++) {
                x.put(address, -7777);
            }
            for (int i = 0; i < 8; i++) {
                x.addDatum(0);
            }
            x.addLine(12, 5, 0);
            x.assemble(isPlaced);
            for (int i = 0; i < 8; i++) {
                Check.number("3 a datum of 0", x.word(x.placeOfDatum(i)), 0);
            }
        }
    }

    /** What was assembled elsewhere before stays on the drum. */
    private static void leavesWhatItWroteBefore() {
        Drumline x = data(2);
        x.addLine(12, 1, 1);
        x.addLine(99, 0, 0);
        x.assemble(false);
        x.assemble(true);
        // The line 1 stands at 4 now, the datum 1 at 1, the datum 0 at 2 as before.
        long[] due = {Code.of(12, 1, 4), 101, 100, 101, Code.of(99, 0, 0), 0};
        for (int address = 0; address < due.length; address++) {
            Check.number("3 at " + address, x.word(address), due[address]);
        }
        x.clearSource();
        x.addLine(40, 1, 0);
        x.assemble(true);
        Check.number("3 another source", x.word(0), Code.of(40, 1, 0));
        Check.number("3 another source leaves it", x.word(4), Code.of(99, 0, 0));
    }

    /** The data of the source are what was added, whatever is written to their places. */
    private static void dataOutlastTheDrum() {
        Drumline x = data(2);
        x.addLine(12, 0, 1);
        x.addLine(20, 1, 2);
        x.addLine(99, 0, 0);
        x.assemble(false);
        Check.number("12 to the end", x.run(9), 's');
        Check.number("3 the datum 1 on the drum", x.word(4), 100);
        x.put(3, 5);
        x.fault(1, 1, 7);
        x.assemble(false);
        Check.number("3 the datum 0 again", x.word(3), 100);
        Check.number("3 the datum 1 again", x.word(4), 101);
        Check.number("3 the line 1 again", x.word(1), Code.of(20, 4, 2));
    }

    /** "A line has an operation .., a reference D, .. and 0 for 99, and a line that comes next", as addresses then. */
    private static void wordsOfLines() {
        Drumline x = data(8);
        int[][] lines = {{10, 7, 15}, {11, 0, 0}, {12, 1, 2}, {20, 2, 3}, {30, 3, 4}, {31, 4, 5}, {40, 1, 6}, {41, 9, 7},
            {42, 5, 8}, {50, 15, 9}, {51, 0, 10}, {52, 12, 11}, {70, 5, 12}, {71, 6, 13}, {99, 3, 14}, {99, -1, 0}};
        for (int[] line : lines) {
            x.addLine(line[0], line[1], line[2]);
        }
        for (boolean isPlaced : new boolean[] {false, true}) {
            x.assemble(isPlaced);
            for (int i = 0; i < 16; i++) {
                int d = lines[i][1];
                int operation = lines[i][0];
                if (operation == 99) {
                    d = 0;
                } else if (operation >= 50 && operation <= 52) {
                    d = x.placeOf(d);
                } else if (operation < 40 || operation > 42) {
                    d = x.placeOfDatum(d);
                }
                Check.number("3 line " + i, x.word(x.placeOf(i)), Code.of(operation, d, x.placeOf(lines[i][2])));
            }
        }
        Check.same("24 it was placed", x.placeOf(1) == 1, false);
    }

    /** placeOf "Throws IndexOutOfBoundsException if there is no such line", assembled or not. */
    private static void linesOfPlaces() {
        for (int lines = 1; lines <= 16; lines += 5) {
            Drumline x = data(8);
            for (int i = 0; i < lines; i++) {
                x.addLine(99, 0, 0);
            }
            for (int round = 0; round < 2; round++) {
                for (int wrong : new int[] {-1, lines, lines + 1, 16, 40, Integer.MAX_VALUE, Integer.MIN_VALUE}) {
                    Check.fails("24 " + wrong, IndexOutOfBoundsException.class, () -> x.placeOf(wrong));
                }
                x.assemble(true);
            }
            Check.number("24 the first", x.placeOf(0), 0);
            Check.same("24 the last", x.placeOf(lines - 1) < 40, true);
        }
    }

    /** placeOfDatum "Throws IndexOutOfBoundsException if there is no such datum", assembled or not. */
    private static void dataOfPlaces() {
        for (int count = 0; count <= 8; count++) {
            Drumline x = data(count);
            for (int i = 0; i < 16; i++) {
                x.addLine(99, 0, 0);
            }
            for (int round = 0; round < 2; round++) {
                for (int wrong : new int[] {-1, count, count + 1, 8, 16, Integer.MAX_VALUE, Integer.MIN_VALUE}) {
                    Check.fails("25 " + wrong, IndexOutOfBoundsException.class, () -> x.placeOfDatum(wrong));
                }
                x.assemble(false);
            }
            if (count > 0) {
                Check.number("25 the first", x.placeOfDatum(0), 16);
                Check.number("25 the last", x.placeOfDatum(count - 1), 15 + count);
            }
        }
    }

    private static void unassembled(String what, Drumline x) {
        Check.fails("24 " + what, IllegalStateException.class, () -> x.placeOf(0));
        Check.fails("25 " + what, IllegalStateException.class, () -> x.placeOfDatum(0));
        Check.fails("24 no line first, " + what, IndexOutOfBoundsException.class, () -> x.placeOf(9));
        Check.fails("25 no datum first, " + what, IndexOutOfBoundsException.class, () -> x.placeOfDatum(5));
    }

    /** "Throws IllegalStateException if it was not assembled", behind foretold and isSound too. */
    private static void notAssembledYet() {
        Drumline x = data(2);
        x.addLine(12, 1, 0);
        unassembled("yet", x);
        x.foretold(false);
        x.foretold(true);
        x.isSound();
        unassembled("yet", x);
        x.addLine(12, 1, 9);
        Check.fails("23 missing", NoSuchElementException.class, () -> x.assemble(true));
        unassembled("by a call that throws", x);
    }

    /** "Since the source was changed": by a datum, by a line, by another source; not by what throws. */
    private static void notAssembledSinceAChange() {
        Drumline x = data(2);
        x.addLine(12, 1, 0);
        x.assemble(true);
        Check.number("24 assembled", x.placeOf(0), 0);
        Check.fails("20 throws", IllegalArgumentException.class, () -> x.addDatum(Code.NO_WORD));
        Check.fails("21 throws", IllegalArgumentException.class, () -> x.addLine(60, 0, 0));
        Check.number("24 still assembled", x.placeOf(0), 0);
        Check.number("25 still assembled", x.placeOfDatum(1), 1);
        x.addDatum(4);
        unassembled("a datum more", x);
        x.assemble(false);
        Check.number("25 assembled", x.placeOfDatum(2), 3);
        x.addLine(99, 0, 0);
        unassembled("a line more", x);
        x.assemble(false);
        Check.number("25 assembled", x.placeOfDatum(2), 4);
        x.clearSource();
        Check.fails("24 cleared", IndexOutOfBoundsException.class, () -> x.placeOf(0));
        Check.fails("25 cleared", IndexOutOfBoundsException.class, () -> x.placeOfDatum(0));
        x.addDatum(100);
        x.addDatum(101);
        x.addLine(12, 1, 0);
        unassembled("another source, though the same", x);
    }

    /** placeOf "Returns the address of a line, as it was assembled last", whatever was foretold or put since. */
    private static void assembledLast() {
        Drumline x = data(1);
        x.addLine(12, 0, 1);
        x.addLine(99, 0, 0);
        int[][] due = {{0, 1, 2}, {0, 4, 1}};
        for (int round = 0; round < 4; round++) {
            boolean isPlaced = round % 2 == 1;
            x.assemble(isPlaced);
            x.foretold(!isPlaced);
            x.isSound();
            x.put(x.placeOf(1), 9);
            Check.number("24 last", x.placeOf(0), due[round % 2][0]);
            Check.number("24 last", x.placeOf(1), due[round % 2][1]);
            Check.number("25 last", x.placeOfDatum(0), due[round % 2][2]);
        }
    }

    /** foretold writes nothing, and needs no assembling. */
    private static void foretellingAlone() {
        Drumline x = data(1);
        x.addLine(12, 0, 1);
        x.addLine(99, 0, 0);
        // Plainly, with the datum at 2: 0, 2, up to 5; 11. By the best places: 0, 1, up to 4; 4.
        Check.number("26 plainly", x.foretold(false), 12);
        Check.number("26 by the best places", x.foretold(true), 5);
        Check.number("27 nothing written", x.checksum(), 0);
        Check.number("17 no beats", x.beat(), 0);
    }

    /** isSound holds with nothing there, with a full source, in a circle beyond 60 instructions, up to each stop. */
    private static void soundness() {
        for (int operation : Code.OPERATIONS) {
            if (operation != 60) {
                Drumline x = data(8);
                x.addCard(5);
                x.put(0, 5);
                for (int i = 0; i < 16; i++) {
                    int reference = operation == 31 ? i % 8 : i % 8 + 1;
                    x.addLine(i % 2 == 0 ? 12 : operation, i % 2 == 0 ? i % 8 : Math.min(7, reference), (i + 5) % 16);
                }
                String before = Snapshot.of(x);
                Check.same("30 in a circle of " + operation, x.isSound(), true);
                Check.same("30 changes nothing", Snapshot.of(x), before);
            }
        }
        Drumline x = new Drumline();
        x.addDatum(0);
        x.addLine(31, 0, 0);
        Check.same("30 a division by 0", x.isSound(), true);
        x.addLine(52, 0, 3);
        Check.same("30 not to be assembled", x.isSound(), true);
    }
}
