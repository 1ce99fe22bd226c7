/** The edges of the best places and of the foretold beats, sentence by sentence: promises 23 to 26. */
public final class PlaceEdgeTest {
    public static void main(String[] args) {
        lineZeroAtZero();
        datumBehindTheReading();
        nextBehindTheBeats();
        waitForTheDatumCounts();
        lowestOfSeveral();
        leastWaitAheadOfTheLowest();
        greatestAddress();
        fullPlaceOfLines();
        fullPlaceOfData();
        placesTurnRound();
        byRisingNumbers();
        whatHasAPlaceStays();
        lowestFreeAddress();
        stopsPlaceTheNextLine();
        branchesPlaceTheNextLineAlone();
        plainIfBestIsOneBeatMore();
        bestIfAsManyBeats();
        upToAStop();
        upToALineThatWasDone();
        branchesDoNotGo();
        allAddressesReady();
        fullSource();
        placingAltersNoAnswer();
        Check.close();
    }

    /** A source of data 0, 1, .. and of lines of three numbers each. */
    private static Drumline source(int data, int... parts) {
        Drumline x = new Drumline();
        for (int i = 0; i < data; i++) {
            x.addDatum(i);
        }
        for (int i = 0; i + 2 < parts.length; i += 3) {
            x.addLine(parts[i], parts[i + 1], parts[i + 2]);
        }
        return x;
    }

    private static void lines(String what, Drumline x, int... places) {
        for (int i = 0; i < places.length; i++) {
            Check.number("24 " + what + ", line " + i, x.placeOf(i), places[i]);
        }
        Check.fails("24 " + what + ", no more", IndexOutOfBoundsException.class, () -> x.placeOf(places.length));
    }

    private static void data(String what, Drumline x, int... places) {
        for (int i = 0; i < places.length; i++) {
            Check.number("25 " + what + ", datum " + i, x.placeOfDatum(i), places[i]);
        }
        Check.fails("25 " + what + ", no more", IndexOutOfBoundsException.class, () -> x.placeOfDatum(places.length));
    }

    private static void beats(String what, Drumline x, int plain, int best) {
        Check.number("26 plainly, " + what, x.foretold(false), plain);
        Check.number("26 by the best places, " + what, x.foretold(true), best);
    }

    /** "Assembled by the best places, the line 0 stands at 0." */
    private static void lineZeroAtZero() {
        Drumline x = source(0, 99, 0, 0);
        Check.number("23 one line", x.assemble(true), 1);
        lines("one line", x, 0);
        data("one line", x);
        beats("one line", x, 1, 1);
        Drumline y = source(1, 40, 1, 0);
        Check.number("23 its own next", y.assemble(true), 2);
        lines("its own next", y, 0);
        data("its own next", y, 1);
        beats("its own next", y, 4, 4);
    }

    /** "If it uses a datum that has no place yet, this gets the free address with the least wait behind the reading". */
    private static void datumBehindTheReading() {
        for (int operation : new int[] {10, 11, 12, 20, 30, 31, 70, 71}) {
            Drumline x = source(3, operation, 2, 0);
            x.assemble(true);
            lines("" + operation, x, 0);
            data("" + operation, x, 2, 3, 1);
        }
        for (int operation : new int[] {40, 41, 42, 50, 51, 52, 99}) {
            Drumline x = source(3, operation, operation < 50 ? 2 : 0, 0);
            x.assemble(true);
            data("none is used by " + operation, x, 1, 2, 3);
        }
    }

    /** "The line that comes next .. gets the free address with the least wait behind this line, its beats .. included". */
    private static void nextBehindTheBeats() {
        // Behind the reading and its operation, or behind the datum, which is read at the beat 1, and the operation.
        int[][] behind = {{10, 4}, {11, 4}, {12, 4}, {20, 3}, {30, 14}, {31, 18}, {40, 4}, {41, 4}, {42, 4}, {50, 2},
            {51, 2}, {52, 2}, {70, 3}, {71, 6}, {99, 1}};
        for (int[] pair : behind) {
            boolean uses = pair[0] < 40 || pair[0] == 70 || pair[0] == 71;
            Drumline x = source(uses ? 1 : 0, pair[0], pair[0] == 40 || pair[0] == 41 || pair[0] == 42 ? 1 : 0, 1, 99, 0, 1);
            x.assemble(true);
            lines("behind " + pair[0], x, 0, pair[1] % 10);
            Check.number("26 behind " + pair[0], x.foretold(true), pair[0] == 99 ? 1 : pair[1] + 1);
        }
    }

    /** "And its wait for D included": the datum was placed by a line ahead. */
    private static void waitForTheDatumCounts() {
        // Line 0 up to 4; line 1 at 4 waits for the datum at 1, 11 up to 12, and 1 beat: line 2 at 3.
        Drumline x = source(1, 12, 0, 1, 20, 0, 2, 99, 0, 0);
        x.assemble(true);
        lines("a wait", x, 0, 4, 3);
        data("a wait", x, 1);
        // Plainly with the datum at 3: 0, 3, up to 6; 11, 13, up to 15; 22.
        beats("a wait", x, 23, 14);
    }

    /** "Of several the lowest one": the same place in each band has the same wait. */
    private static void lowestOfSeveral() {
        // Each line but the last one ends at 4, 14, 24: the bands 0 to 3 one behind the other.
        Drumline x = source(1, 10, 0, 1, 10, 0, 2, 10, 0, 3, 10, 0, 4, 99, 0, 0);
        x.assemble(true);
        lines("bands", x, 0, 4, 14, 24, 34);
        data("bands", x, 1);
        // Plainly, with the datum at 5: 0, 5, up to 8; 11, 15, up to 18, and so on; 44.
        beats("bands", x, 45, 35);
    }

    /** The least wait counts first, however low other free addresses are. */
    private static void leastWaitAheadOfTheLowest() {
        // Line 0 up to the beat 6: line 1 at 6, not at 2 or 36; the datum 1 behind it at 7, up to 9: line 2 at 9.
        Drumline x = source(2, 71, 0, 1, 20, 1, 2, 99, 0, 0);
        x.assemble(true);
        lines("least wait", x, 0, 6, 9);
        data("least wait", x, 1, 7);
        // Plainly with data at 3 and 4: 0, 3, up to 8; 11, 14, up to 16; 22.
        beats("least wait", x, 23, 10);
    }

    /** The greatest address, 39, is one as others are. */
    private static void greatestAddress() {
        // Line 0 up to 2: line 1 at 2, datum 0 at 3, up to 5: line 2 at 5, datum 1 at 6, up to 9: line 3 at 9.
        // The lines 3 to 5 wait for datum 1, up to 19, 29, 39: the lines 4 to 6 at 19, 29, 39.
        Drumline x = source(2, 50, 0, 1, 20, 0, 2, 10, 1, 3, 10, 1, 4, 10, 1, 5, 10, 1, 6, 99, 0, 0);
        x.assemble(true);
        lines("39", x, 0, 2, 5, 9, 19, 29, 39);
        data("39", x, 3, 6);
        Check.number("3 line 5", x.word(29), Code.of(10, 6, 39));
        Check.number("3 line 6", x.word(39), Code.of(99, 0, 0));
        // Plainly, with data at 7 and 8: up to 2; 11, 17, up to 19; 22, 28, up to 31; 33, 38, up to 41; up to 51, 61; 66.
        beats("39", x, 67, 40);
    }

    /** A place with no free address left: the next line goes to the place behind it. */
    private static void fullPlaceOfLines() {
        Drumline x = source(1, 10, 0, 1, 10, 0, 2, 10, 0, 3, 10, 0, 4, 10, 0, 5, 10, 0, 6, 99, 0, 0);
        x.assemble(true);
        // The lines 1 to 4 fill the place 4; the lines 5 and 6 stand at the place 5 then.
        lines("full", x, 0, 4, 14, 24, 34, 5, 15);
        // Up to 4, 14, 24, 34, 44; 45, the datum at 51, up to 54; 55.
        // Plainly, with the datum at 7: up to 10; 11, 17, up to 20, and so on up to 60; 66.
        beats("full", x, 67, 56);
    }

    /** The same for a datum. */
    private static void fullPlaceOfData() {
        Drumline x = source(2, 10, 0, 1, 10, 0, 2, 10, 0, 3, 10, 0, 4, 10, 0, 0, 99, 0, 0, 10, 1, 0);
        x.assemble(true);
        // The lines 5 and 6 get the lowest free addresses 2 and 3; the datum 1 would stand at the place 4, which is full.
        lines("full", x, 0, 4, 14, 24, 34, 2, 3);
        data("full", x, 1, 5);
        // Plainly, with the datum 0 at 7: up to 10, 20, 30, 40, 50.
        beats("full", x, 50, 44);
    }

    /** The places turn round: behind the place 9 comes the place 0, of which the address 0 is taken. */
    private static void placesTurnRound() {
        // Line 0 up to 6; line 1 at 6, datum 1 at 7, up to 9; line 2 at 9, datum 2 at 10, up to 13; line 3 at 3.
        Drumline x = source(3, 71, 0, 1, 20, 1, 2, 12, 2, 3, 99, 0, 0);
        x.assemble(true);
        lines("a datum behind 9", x, 0, 6, 9, 3);
        data("a datum behind 9", x, 1, 7, 10);
        // Plainly, with data at 4, 5, 6: 0, 4, up to 9; 11, 15, up to 17; 22, 26, up to 29; 33.
        beats("a datum behind 9", x, 34, 14);
        // Line 0 up to 4, line 1 at 4 up to 8, line 2 at 8 up to 10: line 3 at 10, up to 12: line 4 at 2.
        Drumline y = source(0, 40, 1, 1, 41, 1, 2, 50, 0, 3, 51, 0, 4, 99, 0, 0);
        y.assemble(true);
        lines("a line behind 9", y, 0, 4, 8, 10, 2);
        // Plainly: up to 4; 11 up to 15; 22 up to 24; 33 up to 35; 44.
        beats("a line behind 9", y, 45, 13);
        // Line 1 at 4 up to 14, so that line 2 stands at 14; its datum is reckoned from there, the beat 15, place 5.
        Drumline z = source(2, 10, 0, 1, 10, 0, 2, 12, 1, 3, 99, 0, 0);
        z.assemble(true);
        lines("a line in the second band", z, 0, 4, 14, 8);
        data("a line in the second band", z, 1, 5);
        // Plainly, with data at 4 and 5: 0, 4, up to 7; 11, 14, up to 17; 22, 25, up to 28; 33.
        beats("a line in the second band", z, 34, 19);
    }

    /** "Then, for each line by rising numbers", not in the order in which they are done. */
    private static void byRisingNumbers() {
        // Line 0 up to 4: line 3 at 4. Line 1 has none when it is its turn: 1; datum 0 behind it at 2, up to 5: line 2 at 5.
        // Line 2 at 5 uses datum 1: 6. Line 3 at 4, whose next has a place.
        Drumline x = source(2, 40, 1, 3, 12, 0, 2, 99, 0, 0, 10, 1, 1);
        x.assemble(true);
        lines("turns", x, 0, 1, 5, 4);
        // Line 3 at 4 wants its datum at 5, which line 2 has: 15.
        data("turns", x, 2, 15);
        // 0 up to 4; 4, 5, up to 8; 11, 12, up to 15; 15.
        // Plainly, with data at 4 and 5: up to 4; 13, 15, up to 18; 21, 24, up to 27; 32.
        beats("turns", x, 33, 16);
    }

    /** "A datum that has no place yet", "if the line that comes next has no place yet": others keep theirs. */
    private static void whatHasAPlaceStays() {
        // Lines 0 to 2 use the datum 0, which stays behind line 0; all of them have line 3 next, which stays behind line 0.
        Drumline x = source(1, 20, 0, 3, 71, 0, 3, 12, 0, 3, 50, 1, 2);
        x.assemble(true);
        lines("stays", x, 0, 2, 4, 3);
        data("stays", x, 1);
        // 0, 1, up to 3; 3 up to 5; 14, 21, up to 24. Plainly, with the datum at 4: 0, 4, up to 6; 13 up to 15; 22, 24, 27.
        beats("stays", x, 27, 24);
    }

    /** "A line that has no place when it is its turn gets the lowest free address, and so do data that have none". */
    private static void lowestFreeAddress() {
        // Line 0 up to 2: line 5 at 2; then the lines 1 to 4 at 1, 3, 4, 5, and the data behind them, by rising numbers.
        Drumline x = source(4, 50, 0, 5, 99, 0, 0, 99, 0, 0, 99, 0, 0, 99, 0, 0, 99, 0, 0);
        x.assemble(true);
        lines("lowest", x, 0, 1, 3, 4, 5, 2);
        data("lowest", x, 6, 7, 8, 9);
        beats("lowest", x, 6, 3);
        // The datum 2 is used; 0, 1 and 3 are not.
        Drumline y = source(4, 12, 2, 1, 99, 0, 0);
        y.assemble(true);
        lines("lowest data", y, 0, 4);
        data("lowest data", y, 2, 3, 1, 5);
        // Plainly, with the datum 2 at 4: 0, 4, up to 7; 11.
        beats("lowest data", y, 12, 5);
    }

    /** "In assembling, a line with 99 gives the line that comes next a place as others do." */
    private static void stopsPlaceTheNextLine() {
        Drumline x = source(0, 99, 0, 3, 99, 0, 0, 99, 0, 0, 99, 0, 2);
        x.assemble(true);
        // Line 3 at 1 behind line 0; line 1 at 2; line 2 at 3.
        lines("99", x, 0, 2, 3, 1);
        beats("99", x, 1, 1);
    }

    /** Only the line that comes next is placed by a line; the one that 50 to 52 go to waits for its turn. */
    private static void branchesPlaceTheNextLineAlone() {
        for (int operation = 50; operation <= 52; operation++) {
            // Line 0 up to 2: line 1 at 2, up to 4: line 2 at 4. Line 3 gets the lowest, 1.
            Drumline x = source(0, operation, 3, 1, operation, 3, 2, 99, 0, 0, 99, 0, 0);
            x.assemble(true);
            lines("" + operation, x, 0, 2, 4, 1);
            Check.number("3 it goes to line 3", x.word(0), Code.of(operation, 1, 2));
            // Plainly: 0 up to 2; 11 up to 13; 22.
            beats("" + operation, x, 23, 5);
        }
    }

    /** "If the foretold beats are more than those of the plain way then, the plain one is taken": by one beat. */
    private static void plainIfBestIsOneBeatMore() {
        // Best: line 2 at 4, line 1 at 2, the datum at 1: up to 4; 4, 11, up to 14; 22 up to 24.
        // Plainly: 0, 3, up to 6; 12, 13, up to 16; 21 up to 23.
        Drumline x = source(1, 12, 0, 2, 51, 0, 0, 10, 0, 1);
        x.assemble(true);
        lines("one beat more", x, 0, 1, 2);
        data("one beat more", x, 3);
        beats("one beat more", x, 23, 23);
        Check.number("3 one beat more", x.word(0), Code.of(12, 3, 2));
        x.run(3);
        Check.number("17 one beat more", x.beat(), 23);
    }

    /** The best places are taken if they are foretold as many beats. */
    private static void bestIfAsManyBeats() {
        // Best: line 2 at 4, line 1 at 1, the datum at 5: up to 4; 4, 5, up to 22; 31 up to 35.
        // Plainly: up to 4; 12, 13, up to 30; 31 up to 35.
        Drumline x = source(1, 40, 7, 2, 40, 1, 2, 31, 0, 1);
        x.assemble(true);
        lines("as many", x, 0, 1, 4);
        data("as many", x, 5);
        beats("as many", x, 35, 35);
    }

    /** "The foretold beats are those of the lines from the line 0 on, each followed by its next one, up to one with 99". */
    private static void upToAStop() {
        for (int stop = 0; stop < 16; stop++) {
            Drumline x = new Drumline();
            for (int i = 0; i < 16; i++) {
                x.addLine(i == stop ? 99 : 40, 1, (i + 1) % 16);
            }
            // Each line ahead of it takes 4 beats; plainly the place behind its own comes 7 beats later.
            beats("99 at " + stop, x, 11 * stop + 1, 4 * stop + 1);
        }
    }

    /** "Or one that was done": the line 0 itself, one in the middle, the last one. */
    private static void upToALineThatWasDone() {
        for (int back = 0; back < 16; back++) {
            Drumline x = new Drumline();
            for (int i = 0; i < 16; i++) {
                x.addLine(51, 0, i < 15 ? i + 1 : back);
            }
            // Plainly 2 beats for each line, and 9 of wait ahead of each but the first one.
            Check.number("26 back to " + back, x.foretold(false), 11 * 15 + 2);
        }
        for (int last = 0; last < 16; last++) {
            Drumline x = new Drumline();
            for (int i = 0; i < 16; i++) {
                x.addLine(51, 0, i < last ? i + 1 : i);
            }
            Check.number("26 its own next " + last, x.foretold(false), 11 * last + 2);
        }
    }

    /** "An operation 50 to 52 is taken not to go to D". */
    private static void branchesDoNotGo() {
        for (int operation = 50; operation <= 52; operation++) {
            Drumline x = source(0, operation, 2, 1, 99, 0, 0, 40, 1, 2);
            beats("" + operation, x, 12, 3);
        }
    }

    /** "And all addresses to be ready": a line that uses a datum right behind the card that is read into it. */
    private static void allAddressesReady() {
        // 0, 1, up to 3; 3, 11, up to 14; 14. Plainly with the datum at 3: 0, 3, up to 5; 11, 13, up to 16; 22.
        Drumline x = source(1, 70, 0, 1, 12, 0, 2, 99, 0, 0);
        beats("70", x, 23, 15);
        x.addCard(5);
        x.assemble(true);
        lines("70", x, 0, 3, 4);
        x.run(9);
        Check.number("17 as foretold", x.beat(), 15);
    }

    /** 16 lines and 8 data: as the beats are foretold, so they come. */
    private static void fullSource() {
        int[] operations = {12, 30, 71, 10, 20, 40, 11, 31, 71, 41, 12, 10, 42, 20, 30, 99};
        for (int step : new int[] {1, 3, 5, 7, 9, 11, 13, 15}) {
            Drumline x = new Drumline();
            for (int i = 0; i < 8; i++) {
                x.addDatum(1 + i);
            }
            int[] order = new int[16];
            for (int i = 0; i < 16; i++) {
                order[i * step % 16] = i;
            }
            for (int i = 0; i < 16; i++) {
                x.addLine(operations[order[i]], 1 + order[i] % 7, (i + step) % 16);
            }
            for (boolean isPlaced : new boolean[] {false, true}) {
                Check.number("23 full", x.assemble(isPlaced), 24);
                x.start(x.placeOf(0));
                Check.number("12 full", x.run(100), 's');
                Check.number("19 full", x.done(), 15);
                Check.number("17 as foretold, step " + step, x.beat(), x.foretold(isPlaced));
            }
            Check.same("26 placing saves", x.foretold(true) < x.foretold(false), true);
        }
    }

    /** "Placing never alters an answer": what a source comes to by both ways, up to 100 steps with cards. */
    private static void placingAltersNoAnswer() {
        java.util.Random dice = new java.util.Random(30);
        int placed = 0;
        for (int round = 0; round < 300; round++) {
            Drumline plain = new Drumline();
            Drumline best = new Drumline();
            for (int i = 0; i < 8; i++) {
                long word = (long) (dice.nextDouble() * (i < 4 ? 100 : Code.BIG)) * (dice.nextBoolean() ? 1 : -1);
                plain.addDatum(word);
                best.addDatum(word);
                plain.addCard(Math.abs(word));
                best.addCard(Math.abs(word));
            }
            for (int i = 0; i < 16; i++) {
                int operation = Code.OPERATIONS[dice.nextInt(15)];
                operation = operation == 60 ? 71 : operation;
                int reference = 1 + dice.nextInt(7);
                int next = dice.nextInt(4) == 0 ? dice.nextInt(16) : (i + 1) % 16;
                plain.addLine(operation, reference, next);
                best.addLine(operation, reference, next);
            }
            plain.assemble(false);
            best.assemble(true);
            placed += best.placeOfDatum(7) == 23 ? 0 : 1;
            Check.number("12 by both ways", best.run(100), plain.run(100));
            Check.same("13 to 19 by both ways", cameTo(best), cameTo(plain));
            Check.same("30 sound", best.isSound(), true);
        }
        Check.same("23 placed mostly", placed > 150, true);
    }

    private static String cameTo(Drumline x) {
        StringBuilder text = new StringBuilder();
        text.append(x.accumulator()).append(' ').append(x.extension()).append(' ').append(x.isOverflow()).append(' ');
        text.append(x.done()).append(' ').append(x.cards()).append(" |");
        for (int i = 0; i < x.punched() && i < 100; i++) {
            text.append(' ').append(x.punchedAt(i));
        }
        text.append(" |");
        for (int datum = 0; datum < 8; datum++) {
            text.append(' ').append(x.word(x.placeOfDatum(datum)));
        }
        return text.toString();
    }
}
