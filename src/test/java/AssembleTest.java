/** Promises 20 to 26 and 30: the source, how it is assembled, its places and its foretold beats. */
public final class AssembleTest {
    public static void main(String[] args) {
        data();
        lines();
        plain();
        best();
        bestOfSeveral();
        plainIsTaken();
        missing();
        changes();
        foretells();
        sound();
        Check.close();
    }

    private static void data() {
        Drumline x = new Drumline();
        long[] words = {0, 9999999999L, -9999999999L, 1, 2, 3, 4, 5};
        for (int i = 0; i < 8; i++) {
            Check.number("20 number", x.addDatum(words[i]), i);
        }
        Check.fails("20 full", IllegalStateException.class, () -> x.addDatum(6));
        for (long word : new long[] {10000000000L, -10000000000L, Long.MIN_VALUE, Long.MAX_VALUE}) {
            Check.fails("20 no word", IllegalArgumentException.class, () -> x.addDatum(word));
        }
        x.addLine(99, 0, 0);
        Check.number("23 taken", x.assemble(false), 9);
        for (int i = 0; i < 8; i++) {
            Check.number("25 place", x.placeOfDatum(i), i + 1);
            Check.number("3 datum", x.word(i + 1), words[i]);
        }
        Check.number("22 lines", x.clearSource(), 1);
        Check.number("20 from 0 again", x.addDatum(7), 0);
    }

    private static void lines() {
        Drumline x = new Drumline();
        int[][] right = {{10, 0, 0}, {11, 7, 15}, {12, 0, 0}, {20, 7, 0}, {30, 0, 0}, {31, 7, 0}, {40, 1, 0}, {41, 9, 0},
            {42, 5, 0}, {50, 15, 0}, {51, 0, 0}, {52, 15, 15}, {70, 7, 0}, {71, 7, 0}, {99, -1, 0},
            {99, Integer.MAX_VALUE, 15}};
        int[][] wrong = {{60, 0, 0}, {0, 0, 0}, {9, 0, 0}, {13, 0, 0}, {21, 0, 0}, {43, 1, 0}, {53, 0, 0}, {72, 0, 0},
            {98, 0, 0}, {100, 0, 0}, {-10, 0, 0}, {10, -1, 0}, {10, 8, 0}, {71, 8, 0}, {70, -1, 0}, {20, 8, 0},
            {40, 0, 0}, {41, 10, 0}, {42, -1, 0}, {50, 16, 0}, {51, -1, 0}, {52, 16, 0}, {10, 0, -1}, {10, 0, 16},
            {99, 0, 16}, {99, 0, -1}, {Integer.MIN_VALUE, 0, 0}, {40, 1, Integer.MAX_VALUE},
            {31, Integer.MIN_VALUE, 0}};
        for (int[] line : wrong) {
            Check.fails("21 wrong", IllegalArgumentException.class, () -> x.addLine(line[0], line[1], line[2]));
        }
        for (int i = 0; i < 16; i++) {
            Check.number("21 number", x.addLine(right[i][0], right[i][1], right[i][2]), i);
        }
        for (int[] line : wrong) {
            Check.fails("21 wrong first", IllegalArgumentException.class, () -> x.addLine(line[0], line[1], line[2]));
        }
        Check.fails("21 full", IllegalStateException.class, () -> x.addLine(99, 0, 0));
        Check.number("22 lines", x.clearSource(), 16);
        Check.number("22 none", x.clearSource(), 0);
        Check.number("21 from 0 again", x.addLine(99, 0, 0), 0);
    }

    private static void plain() {
        Drumline x = new Drumline();
        x.put(6, 123);
        x.fault(2, 10, 1);
        x.addDatum(-4);
        x.addDatum(17);
        x.addLine(10, 1, 2);
        x.addLine(99, 77, 3);
        x.addLine(51, 1, 3);
        x.addLine(42, 9, 1);
        Check.number("23 taken", x.assemble(false), 6);
        long[] due = {1000050002L, 9900000003L, 5100010003L, 4200090001L, -4, 17, 123};
        for (int address = 0; address < due.length; address++) {
            Check.number("23 word", x.word(address), due[address]);
        }
        Check.same("23 puts check digits right", x.isGood(2), true);
        for (int line = 0; line < 4; line++) {
            Check.number("24 place", x.placeOf(line), line);
        }
        Check.number("25 place", x.placeOfDatum(0), 4);
        Check.number("25 place", x.placeOfDatum(1), 5);
    }

    private static void best() {
        Drumline x = new Drumline();
        x.addDatum(1);
        x.addDatum(2);
        x.addDatum(3);
        x.addLine(12, 1, 3);
        x.addLine(99, 0, 4);
        x.addLine(20, 1, 1);
        x.addLine(99, 1, 2);
        x.addLine(99, 0, 0);
        Check.number("23 taken", x.assemble(true), 8);
        // Line 0 at 0, datum 1 at 1, line 3 behind 1 + 1 + 2 beats at 4; line 1 at the lowest, 2; line 4 behind it at 3;
        // line 2 at the lowest, 5, as its turn comes ahead of that of line 3; then the data 0 and 2.
        int[] lines = {0, 2, 5, 4, 3};
        int[] data = {6, 1, 7};
        for (int i = 0; i < lines.length; i++) {
            Check.number("24 place of " + i, x.placeOf(i), lines[i]);
        }
        for (int i = 0; i < data.length; i++) {
            Check.number("25 place of " + i, x.placeOfDatum(i), data[i]);
        }
        Check.number("3 line", x.word(4), 9900000005L);
        Check.number("3 line", x.word(2), 9900000003L);
    }

    private static void bestOfSeveral() {
        Drumline x = new Drumline();
        x.addDatum(1);
        x.addDatum(2);
        // Each line is followed by one whose best place is taken, so that the next band is sought, then the next place.
        x.addLine(12, 0, 1);
        x.addLine(50, 3, 2);
        x.addLine(30, 1, 3);
        x.addLine(30, 0, 4);
        x.addLine(10, 1, 5);
        x.addLine(99, 0, 0);
        x.assemble(true);
        // 0 at 0; datum 0 at 1; 1 at 4; 2 at 6; datum 1 at 7; 3 behind 8 + 12 at 10 as 0 is taken; 3 is read at 10,
        // datum 0 under the heads at once, 12 + 12: 4 at 14 as 4 is taken; 4 is read at 14, datum 1 at 17, 18 + 2: 20.
        int[] lines = {0, 4, 6, 10, 14, 20};
        for (int i = 0; i < lines.length; i++) {
            Check.number("24 place of " + i, x.placeOf(i), lines[i]);
        }
        Check.number("25 place of 1", x.placeOfDatum(1), 7);
        Check.number("3 a branch to a line that is placed", x.word(4), 5000100006L);
        x.start(0);
        x.run(100);
        Check.number("26 as it runs", x.foretold(true), x.beat());
    }

    private static void plainIsTaken() {
        Drumline y = new Drumline();
        y.addDatum(1);
        y.addDatum(2);
        y.addDatum(3);
        y.addLine(12, 1, 3);
        y.addLine(99, 0, 4);
        y.addLine(20, 1, 1);
        y.addLine(50, 1, 2);
        y.addLine(99, 0, 0);
        // Datum 1 at 1, line 3 at 4, then line 2 at 5 only, and line 1 at 2: 0 4, 4 6, 15 16, 21 23, 32 33.
        // Plainly: 0 1, 6 9, 13 15, 22 23, 26 28, 31 32.
        Check.number("26 plainly", y.foretold(false), 32);
        Check.number("26 the plain one", y.foretold(true), 32);
        Check.number("23 taken", y.assemble(true), 8);
        for (int line = 0; line < 5; line++) {
            Check.number("24 the plain one", y.placeOf(line), line);
        }
        Check.number("25 the plain one", y.placeOfDatum(2), 7);
        Check.number("3 the plain one", y.word(3), 5000010002L);
        Drumline z = new Drumline();
        z.addLine(99, 0, 2);
        z.addLine(99, 0, 0);
        z.addLine(99, 0, 0);
        Check.number("26 as many", z.foretold(true), z.foretold(false));
        z.assemble(true);
        Check.number("24 the best places if they cost no more", z.placeOf(2), 1);
        int taken = 0;
        for (int seed = 0; seed < 400; seed++) {
            Drumline x = random(seed);
            int plain = x.foretold(false);
            int best = x.foretold(true);
            Check.same("26 never more", best <= plain, true);
            x.assemble(true);
            boolean isPlain = true;
            for (int line = 0; line < 16; line++) {
                isPlain &= x.placeOf(line) == line;
            }
            if (isPlain) {
                taken++;
                Check.number("26 the plain one", best, plain);
                Check.number("25 the plain one", x.placeOfDatum(7), 23);
            }
            x.start(0);
            Check.same("30 sound", x.isSound(), true);
        }
        Check.same("23 the plain one is taken at times", taken > 0, true);
    }

    /** A source whose lines stand in one row, with short operations. */
    private static Drumline random(int seed) {
        java.util.Random dice = new java.util.Random(seed);
        Drumline x = new Drumline();
        for (int i = 0; i < 8; i++) {
            x.addDatum(i);
        }
        for (int i = 0; i < 16; i++) {
            int kind = dice.nextInt(12);
            if (kind == 0) {
                x.addLine(20, dice.nextInt(8), (i + 1) % 16);
            } else {
                x.addLine(kind == 1 ? 99 : 51, dice.nextInt(16), kind < 9 ? (i + 1) % 16 : dice.nextInt(16));
            }
        }
        return x;
    }

    private static void missing() {
        Drumline x = new Drumline();
        Check.fails("23 no lines", IllegalStateException.class, () -> x.assemble(true));
        Check.fails("23 no lines", IllegalStateException.class, () -> x.assemble(false));
        Check.fails("26 no lines", IllegalStateException.class, () -> x.foretold(true));
        Check.fails("26 no lines", IllegalStateException.class, () -> x.foretold(false));
        x.addDatum(1);
        Check.fails("23 data alone", IllegalStateException.class, () -> x.assemble(false));
        int[][] wrong = {{10, 1, 0}, {20, 7, 0}, {70, 1, 0}, {71, 1, 0}, {50, 2, 0}, {52, 15, 0}, {40, 1, 2}, {99, 0, 2}};
        for (int[] line : wrong) {
            for (int where = 0; where < 2; where++) {
                Drumline y = new Drumline();
                y.addDatum(1);
                if (where == 1) {
                    y.addLine(99, 0, 1);
                }
                y.addLine(line[0], line[1], line[2]);
                if (where == 0) {
                    y.addLine(99, 0, 1);
                }
                Check.fails("23 missing", java.util.NoSuchElementException.class, () -> y.assemble(true));
                Check.fails("23 missing", java.util.NoSuchElementException.class, () -> y.assemble(false));
                Check.fails("26 missing", java.util.NoSuchElementException.class, () -> y.foretold(true));
                Check.fails("26 missing", java.util.NoSuchElementException.class, () -> y.foretold(false));
                Check.same("30 not to be assembled", y.isSound(), true);
                Check.number("27 nothing written", y.checksum(), 0);
                Check.fails("24 not assembled", IllegalStateException.class, () -> y.placeOf(1));
                Check.fails("24 no line", IndexOutOfBoundsException.class, () -> y.placeOf(2));
            }
        }
        Drumline z = new Drumline();
        z.addLine(40, 9, 0);
        Check.number("23 a shift refers to nothing", z.assemble(true), 1);
        z.clearSource();
        z.addLine(99, 9, 0);
        Check.number("23 a stop refers to nothing by D", z.assemble(true), 1);
        Check.number("3 its D is 0", z.word(0), 9900000000L);
    }

    private static void changes() {
        Drumline x = new Drumline();
        x.addDatum(1);
        x.addLine(10, 0, 0);
        Check.fails("24 before", IllegalStateException.class, () -> x.placeOf(0));
        Check.fails("25 before", IllegalStateException.class, () -> x.placeOfDatum(0));
        x.foretold(true);
        x.isSound();
        Check.fails("24 foretelling is not assembling", IllegalStateException.class, () -> x.placeOf(0));
        x.assemble(true);
        Check.number("24", x.placeOf(0), 0);
        for (int wrong : new int[] {-1, 1, Integer.MIN_VALUE, Integer.MAX_VALUE}) {
            Check.fails("24 range", IndexOutOfBoundsException.class, () -> x.placeOf(wrong));
            Check.fails("25 range", IndexOutOfBoundsException.class, () -> x.placeOfDatum(wrong));
        }
        x.addDatum(2);
        Check.fails("24 a datum more", IllegalStateException.class, () -> x.placeOf(0));
        Check.fails("25 a datum more", IllegalStateException.class, () -> x.placeOfDatum(1));
        x.assemble(true);
        Check.number("25", x.placeOfDatum(1), 2);
        x.addLine(99, 0, 5);
        Check.fails("25 a line more", IllegalStateException.class, () -> x.placeOfDatum(0));
        Check.fails("23 missing", java.util.NoSuchElementException.class, () -> x.assemble(true));
        x.clearSource();
        Check.fails("24 empty", IndexOutOfBoundsException.class, () -> x.placeOf(0));
        Check.fails("25 empty", IndexOutOfBoundsException.class, () -> x.placeOfDatum(0));
        x.addLine(99, 0, 0);
        Check.fails("24 another source", IllegalStateException.class, () -> x.placeOf(0));
        x.assemble(false);
        x.put(0, 5);
        x.foretold(true);
        Check.number("24 as it was assembled", x.placeOf(0), 0);
        Check.fails("21 a call that throws changes nothing", IllegalArgumentException.class, () -> x.addLine(60, 0, 0));
        Check.number("24 unchanged", x.placeOf(0), 0);
    }

    private static void foretells() {
        Drumline x = new Drumline();
        x.addDatum(1);
        x.addLine(12, 0, 1);
        Check.fails("26 missing", java.util.NoSuchElementException.class, () -> x.foretold(false));
        x.addLine(31, 0, 2);
        x.addLine(50, 1, 3);
        x.addLine(99, 0, 1);
        // 0 read, 4 datum, 5 6; 11 read, 14 datum, 16 beats up to 30; 32 read, 33; 43 read, up to 44.
        // Data stand at 4.
        Check.number("26 up to 99", x.foretold(false), 44);
        x.assemble(false);
        x.run(100);
        Check.number("17 as foretold", x.beat(), 44);
        Drumline y = new Drumline();
        y.addLine(40, 1, 1);
        y.addLine(50, 2, 0);
        y.addLine(99, 0, 0);
        // 0 read, 1 2 3; 11 read, 12; line 0 was done.
        Check.number("26 up to one that was done", y.foretold(false), 13);
        Check.number("26 by the best places", y.foretold(true), 6);
        Drumline z = new Drumline();
        z.addDatum(0);
        z.addLine(70, 0, 1);
        z.addLine(71, 0, 2);
        z.addLine(99, 0, 0);
        // Data stand at 3. 0 read, 3 datum, 4; 11 read, 13 datum, 14 to 17; 22 read.
        Check.number("26 all addresses ready", z.foretold(false), 23);
        // Datum 0 at 1, line 1 at 3: 3 read, 11 datum, up to 15; line 2 at 6: 16 read.
        Check.number("26 all addresses ready", z.foretold(true), 17);
    }

    private static void sound() {
        Drumline x = new Drumline();
        Check.same("30 empty", x.isSound(), true);
        x.put(0, 5);
        x.addCard(8);
        x.wire(1, 2);
        x.addDatum(3);
        x.addDatum(-1);
        x.addLine(12, 0, 1);
        x.addLine(71, 0, 2);
        x.addLine(10, 1, 3);
        x.addLine(20, 0, 4);
        x.addLine(50, 5, 1);
        x.addLine(70, 1, 0);
        String before = Snapshot.of(x);
        Check.same("30 sound", x.isSound(), true);
        Check.same("30 changes nothing", Snapshot.of(x), before);
        x.assemble(true);
        before = Snapshot.of(x);
        Check.same("30 sound", x.isSound(), true);
        Check.same("30 changes nothing", Snapshot.of(x), before);
    }
}
