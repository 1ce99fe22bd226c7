/** The edges of instructions and stops, sentence by sentence: promise 12, and what a stop leaves. */
public final class StopEdgeTest {
    /** The operations that read a word and look at its check digit. */
    private static final int[] READERS = {10, 11, 12, 30, 31, 60, 71};

    public static void main(String[] args) {
        emptyDrum();
        operationsThatThereAre();
        lessThanZero();
        nextAddresses();
        references();
        shiftCounts();
        stopsThatHaveNoReference();
        wrongInstructionsFirst();
        unlawfulAheadOfOthers();
        noCardAheadOfWords();
        wrongWordAheadOfDivision();
        wrongWordsAreFound();
        writersDoNotLook();
        looksAtNoMoreThanItMust();
        beatsUpToStops();
        nothingMoreIsDone();
        doneAgain();
        goesOnWhenMended();
        branches();
        looks();
        Check.close();
    }

    private static char stop(long instruction) {
        return Code.with(instruction).run(1);
    }

    /** A new machine stands at the word 0, whose operation 00 there isn't. */
    private static void emptyDrum() {
        Drumline x = new Drumline();
        for (int address = 0; address < 40; address++) {
            x.start(address);
            Check.number("12 nothing there yet", x.run(100), 'i');
            Check.number("15 nothing there yet", x.next(), address);
            Check.number("17 nothing there yet", x.beat(), address % 10 + 1);
            Check.number("19 nothing there yet", x.done(), 0);
        }
    }

    /** "Its first two digits the operation"; 'i', it "has no such operation": all of 00 to 99. */
    private static void operationsThatThereAre() {
        for (int operation = 0; operation <= 99; operation++) {
            boolean isThere = false;
            for (int each : Code.OPERATIONS) {
                isThere |= each == operation;
            }
            Drumline x = Code.with(Code.of(operation, 5, 6));
            x.put(5, 7);
            x.addCard(7);
            char due = !isThere ? 'i' : operation == 99 ? 's' : '-';
            Check.number("12 " + operation, x.run(1), due);
            Check.number("15 " + operation, x.next(), due != '-' ? 0 : operation == 50 ? 5 : 6);
            Check.number("19 " + operation, x.done(), due == '-' ? 1 : 0);
        }
    }

    /** "An instruction is a word not less than 0"; "'i', it is less than 0". */
    private static void lessThanZero() {
        for (int operation : Code.OPERATIONS) {
            Drumline x = Code.with(-Code.of(operation, 5, 6));
            x.put(5, 7);
            x.addCard(7);
            Check.number("12 below 0 " + operation, x.run(1), 'i');
            Check.number("8 below 0 " + operation, x.cards(), 1);
        }
        Check.number("12 -1", stop(-1), 'i');
        Check.number("12 0", stop(0), 'i');
        Check.number("12 the greatest", stop(Code.BIG), 'i');
        Check.number("12 the least", stop(-Code.BIG), 'i');
    }

    /** 'i', it has "an N beyond 39", 99 and each other operation alike. */
    private static void nextAddresses() {
        for (int operation : Code.OPERATIONS) {
            for (int n : new int[] {0, 39, 40, 41, 100, 1000, 4000, 9999}) {
                Drumline x = Code.with(Code.of(operation, 1, n), 7);
                x.addCard(7);
                char due = n > 39 ? 'i' : operation == 99 ? 's' : '-';
                Check.number("12 " + operation + " N " + n, x.run(1), due);
                Check.number("15 " + operation + " N " + n, x.next(), due != '-' ? 0 : operation == 50 ? 1 : n);
            }
        }
    }

    /** 'i', it has, "but for 99, a D beyond 39". */
    private static void references() {
        for (int operation : new int[] {10, 11, 12, 20, 30, 31, 50, 51, 52, 60, 70, 71}) {
            for (int d : new int[] {0, 39, 40, 41, 100, 1000, 4000, 9999}) {
                Drumline x = Code.with(Code.of(operation, d, 2));
                x.put(39, 7);
                x.addCard(7);
                Check.number("12 " + operation + " D " + d, x.run(1), d > 39 ? 'i' : '-');
                Check.number("19 " + operation + " D " + d, x.done(), d > 39 ? 0 : 1);
            }
        }
    }

    /** 'i', it has, "for 40 to 42 none from 1 to 9". */
    private static void shiftCounts() {
        for (int operation = 40; operation <= 42; operation++) {
            for (int d : new int[] {0, 1, 9, 10, 11, 19, 39, 40, 100, 1001, 9999}) {
                Check.number("12 " + operation + " by " + d, stop(Code.of(operation, d, 2)), d >= 1 && d <= 9 ? '-' : 'i');
            }
        }
    }

    /** 99 has no D: any will do. */
    private static void stopsThatHaveNoReference() {
        for (int d : new int[] {0, 1, 39, 40, 1000, 9999}) {
            Check.number("12 99 D " + d, stop(Code.of(99, d, 39)), 's');
            Check.number("12 99 D " + d, stop(Code.of(99, d, 40)), 'i');
        }
    }

    /** 'f', "its word has a check digit that is not that of its digits", ahead of all others. */
    private static void wrongInstructionsFirst() {
        long[] words = {Code.of(99, 5, 6), -Code.of(99, 5, 6), Code.of(13, 5, 6), Code.of(10, 40, 6), Code.of(10, 5, 40),
            Code.of(40, 0, 6), Code.of(70, 5, 6), Code.of(31, 5, 6), Code.of(10, 6, 6), Code.of(60, 6, 6)};
        for (long word : words) {
            Drumline x = Code.with(word);
            x.fault(6, 3, 3);
            x.fault(0, 10, (int) (Math.abs(word) % 10) + 1);
            Check.number("12 wrong " + word, x.run(1), 'f');
            Check.number("17 wrong " + word, x.beat(), 1);
            x.fault(0, 10, (int) (Math.abs(word) % 10));
            Check.same("12 right again " + word, x.run(1) == 'f', word == Code.of(10, 6, 6) || word == Code.of(60, 6, 6));
        }
        Drumline x = Code.with(Code.of(99, 0, 11));
        x.fault(0, 9, 2);
        x.fault(0, 10, 0);
        Check.number("12 two faults that make a good word", x.run(1), 's');
    }

    /** 'i' ahead of 's', 'c', 'f' of a word and 'd'. */
    private static void unlawfulAheadOfOthers() {
        Check.number("12 ahead of 's'", stop(Code.of(99, 0, 40)), 'i');
        Check.number("12 ahead of 's'", stop(-Code.of(99, 0, 0)), 'i');
        Check.number("12 ahead of 'c'", stop(Code.of(70, 5, 40)), 'i');
        Check.number("12 ahead of 'c'", stop(Code.of(70, 40, 5)), 'i');
        Check.number("12 ahead of 'c'", stop(-Code.of(70, 5, 5)), 'i');
        Check.number("12 ahead of 'd'", stop(Code.of(31, 5, 40)), 'i');
        for (int operation : READERS) {
            Drumline x = Code.with(Code.of(operation, 5, 40));
            x.fault(5, 1, 1);
            Check.number("12 ahead of 'f' " + operation, x.run(1), 'i');
            Check.number("17 ahead of 'f' " + operation, x.beat(), 1);
        }
    }

    /** "'c', no card is left for it": "the beats of reading the instruction are taken, no wait for D". */
    private static void noCardAheadOfWords() {
        for (int d = 0; d < 40; d++) {
            Drumline x = Code.with(Code.of(70, d, 6));
            x.put(d, d == 0 ? Code.of(70, 0, 6) : 5);
            if (d > 0) {
                x.fault(d, 1, 1);
            }
            Check.number("12 no card", x.run(1), 'c');
            Check.number("17 no card", x.beat(), 1);
            Check.number("18 no card", x.waits(), 0);
            Check.same("5 nothing written", x.isGood(d), d == 0);
        }
    }

    /** 'f' of a word that is read ahead of "'d', it divides by 0". */
    private static void wrongWordAheadOfDivision() {
        Drumline x = Code.with(Code.of(31, 5, 6));
        x.put(5, -4);
        x.fault(5, 10, 0);
        Check.number("3 it reads 0", x.word(5), 0);
        Check.number("12 'f'", x.run(1), 'f');
        x.put(5, 0);
        Check.number("12 'd'", x.run(1), 'd');
        x.put(5, 1);
        Check.number("12 '-'", x.run(1), '-');
        Check.number("12 'd' of a 0 that faults hide", hiddenZero().run(1), 'd');
    }

    /** A word 55 whose faults make it 0 with the same check digit. */
    private static Drumline hiddenZero() {
        Drumline x = Code.with(Code.of(31, 5, 6));
        x.put(5, 55);
        x.fault(5, 9, 0);
        x.fault(5, 10, 0);
        return x;
    }

    /** "'f', a word that it reads, at D or by 60, has a wrong check digit": by each operation that reads one. */
    private static void wrongWordsAreFound() {
        for (int operation : READERS) {
            for (int digit = 1; digit <= 10; digit++) {
                Drumline x = Code.with(Code.of(operation, 35, 6));
                x.put(35, 1111111111);
                x.fault(35, digit, 2);
                Check.number("12 wrong " + operation, x.run(1), 'f');
                Check.number("13 wrong " + operation, x.accumulator(), 0);
                Check.number("14 wrong " + operation, x.extension(), 0);
                Check.number("9 wrong " + operation, x.punched(), 0);
                Check.number("17 wrong " + operation, x.beat(), 6);
                Check.number("18 wrong " + operation, x.waits(), 4);
                x.fault(35, digit, 1);
                Check.number("12 right again " + operation, x.run(1), '-');
            }
        }
    }

    /** "An operation that writes to D does not look at the check digit there." */
    private static void writersDoNotLook() {
        for (int operation : new int[] {20, 70}) {
            Drumline x = Code.with(Code.of(operation, 5, 6));
            x.fault(5, 1, 1);
            x.addCard(8);
            Check.number("12 writes " + operation, x.run(1), '-');
            Check.number("3 writes " + operation, x.word(5), operation == 70 ? 8 : 0);
            Check.same("5 writes " + operation, x.isGood(5), true);
        }
    }

    /** 60 reads no word ahead of D, none behind the one that it finds, none beyond the end of the band. */
    private static void looksAtNoMoreThanItMust() {
        Drumline x = Code.with(Code.of(12, 1, 2), 5, Code.of(60, 35, 6));
        x.put(36, 5);
        x.fault(34, 1, 1);
        x.fault(37, 1, 1);
        Check.number("12 found ahead of a wrong one", x.run(2), '-');
        Check.number("14 found ahead of a wrong one", x.extension(), 36);
        x.fault(36, 1, 1);
        x.start(0);
        Check.number("12 wrong where it is found", x.run(2), 'f');
        Check.number("14 wrong where it is found", x.extension(), 0);
        x.put(36, 4);
        x.start(0);
        Check.number("12 wrong behind", x.run(2), 'f');
        Check.number("19 wrong behind", x.done(), 1);
        Drumline y = Code.with(Code.of(12, 1, 2), 5, Code.of(60, 18, 6));
        y.fault(20, 1, 1);
        y.fault(10, 1, 1);
        Check.number("12 the end of the band", y.run(2), '-');
        Check.number("14 the end of the band", y.extension(), -1);
    }

    private static void stopsAt(String what, Drumline x, char due, int beat, int waits) {
        Check.number("12 " + what, x.run(5), due);
        Check.number("17 " + what, x.beat(), beat);
        Check.number("18 " + what, x.waits(), waits);
        Check.number("15 " + what, x.next(), 9);
        Check.number("19 " + what, x.done(), 0);
    }

    private static Drumline atNine(long instruction) {
        Drumline x = new Drumline();
        x.put(9, instruction);
        x.start(9);
        return x;
    }

    /** "The beats up to there are taken, those in which a word is read that is wrong or 0 included." */
    private static void beatsUpToStops() {
        stopsAt("'i'", atNine(Code.of(10, 40, 0)), 'i', 10, 9);
        stopsAt("'s'", atNine(Code.of(99, 5, 0)), 's', 10, 9);
        stopsAt("'c'", atNine(Code.of(70, 5, 0)), 'c', 10, 9);
        stopsAt("'d'", atNine(Code.of(31, 5, 0)), 'd', 16, 14);
        stopsAt("'d' without a wait", atNine(Code.of(31, 30, 0)), 'd', 11, 9);
        Drumline x = atNine(Code.of(99, 0, 0));
        x.fault(9, 1, 8);
        stopsAt("'f'", x, 'f', 10, 9);
        for (int operation : READERS) {
            x = atNine(Code.of(operation, 8, 0));
            x.fault(8, 1, 1);
            stopsAt("'f' at D " + operation, x, 'f', 19, 17);
        }
        x = atNine(Code.of(60, 15, 0));
        x.put(15, -1);
        x.put(16, -1);
        x.fault(17, 1, 1);
        stopsAt("'f' at the third word", x, 'f', 18, 14);
    }

    /** One step, and then a stop that leaves all but the beats. */
    private static void leaves(String what, Drumline x, char due) {
        x.run(1);
        String before = settled(x);
        int beat = x.beat();
        Check.number("12 " + what, x.run(7), due);
        Check.same("what is left by " + what, settled(x), before);
        Check.same("17 " + what, x.beat() > beat, true);
    }

    private static String settled(Drumline x) {
        StringBuilder text = new StringBuilder();
        text.append(x.accumulator()).append(' ').append(x.extension()).append(' ').append(x.next()).append(' ');
        text.append(x.isOverflow()).append(' ').append(x.done()).append(' ').append(x.cards()).append(' ');
        text.append(x.punched()).append(' ').append(x.checksum());
        for (int address = 0; address < 40; address++) {
            text.append(x.isGood(address) ? '+' : '-');
        }
        return text.toString();
    }

    /** A machine with an overflow that is noted, and a product to come at 3, then an instruction at 4. */
    private static Drumline before(long instruction) {
        Drumline x = Code.overflowed();
        x.put(3, Code.of(30, 22, 4));
        x.put(4, instruction);
        x.put(5, 0);
        x.put(6, 3);
        return x;
    }

    /** "Nothing more of it is done, and it is not counted." */
    private static void nothingMoreIsDone() {
        leaves("'s'", before(Code.of(99, 6, 7)), 's');
        leaves("'c'", before(Code.of(70, 6, 7)), 'c');
        leaves("'d'", before(Code.of(31, 5, 7)), 'd');
        for (int operation : Code.OPERATIONS) {
            Drumline x = before(Code.of(operation, 6, 40));
            x.addCard(1);
            leaves("'i' by N " + operation, x, 'i');
            x = before(-Code.of(operation, 6, 7));
            x.addCard(1);
            leaves("'i' below 0 " + operation, x, 'i');
            x = before(Code.of(operation, 6, 7));
            x.addCard(1);
            x.fault(4, 10, 8);
            leaves("'f' " + operation, x, 'f');
        }
        for (int operation : new int[] {10, 11, 12, 20, 30, 31, 50, 51, 52, 60, 70, 71}) {
            Drumline x = before(Code.of(operation, 40, 7));
            x.addCard(1);
            leaves("'i' by D " + operation, x, 'i');
        }
        for (int operation : READERS) {
            Drumline x = before(Code.of(operation, 6, 7));
            x.fault(6, 1, 9);
            leaves("'f' at D " + operation, x, 'f');
        }
    }

    /** run: "From a stop on, the instruction at which the machine stands is done again, and one by 99 stops again." */
    private static void doneAgain() {
        long[] words = {Code.of(99, 0, 0), Code.of(70, 9, 0), Code.of(31, 9, 0), Code.of(13, 0, 0)};
        char[] due = {'s', 'c', 'd', 'i'};
        for (int i = 0; i < words.length; i++) {
            Drumline x = Code.with(words[i]);
            for (int again = 1; again <= 20; again++) {
                Check.number("12 again " + due[i], x.run(1 + again * 5 % 100), due[i]);
                Check.number("15 again " + due[i], x.next(), 0);
                Check.number("19 again " + due[i], x.done(), 0);
                // A division waits for 9 once more, up to the end of the turn.
                Check.number("17 again " + due[i], x.beat(), due[i] == 'd' ? 10 * again : 10 * again - 9);
                Check.number("18 again " + due[i], x.waits(), due[i] == 'd' ? 8 * again : 9 * again - 9);
            }
        }
    }

    /** The same, once its reason is gone. */
    private static void goesOnWhenMended() {
        Drumline x = Code.with(Code.of(70, 5, 1), Code.of(31, 5, 2), Code.of(10, 5, 3), Code.of(71, 5, 4));
        Check.number("12 no card", x.run(1), 'c');
        x.addCard(0);
        Check.number("12 a card", x.run(1), '-');
        Check.number("15 a card", x.next(), 1);
        Check.number("12 by 0", x.run(1), 'd');
        x.put(5, 2);
        Check.number("12 by 2", x.run(1), '-');
        x.fault(2, 2, 3);
        Check.number("12 wrong", x.run(1), 'f');
        x.fault(2, 2, 0);
        Check.number("12 right", x.run(1), '-');
        x.put(3, Code.of(71, 50, 4));
        Check.number("12 unlawful", x.run(1), 'i');
        x.put(3, Code.of(71, 5, 4));
        Check.number("12 lawful", x.run(1), '-');
        Check.number("19 four", x.done(), 4);
        Check.number("10 the sum", x.punchedAt(0), 2);
        x.put(4, Code.of(99, 0, 0));
        Check.number("12 99", x.run(1), 's');
        x.put(4, Code.of(51, 0, 8));
        Check.number("12 no 99 any more", x.run(1), '-');
        Check.number("15 no 99 any more", x.next(), 8);
    }

    private static int goes(int operation, long accumulator, int d, int n) {
        Drumline x = Code.holding(0, accumulator);
        x.put(3, Code.of(operation, d, n));
        x.run(1);
        return x.next();
    }

    /** 50 "goes to D instead of N if the accumulator is 0, 51 if it is less than 0, 52 if an overflow was noted". */
    private static void branches() {
        long[] words = {0, 1, -1, Code.BIG, -Code.BIG};
        for (long word : words) {
            Check.number("15 50 " + word, goes(50, word, 39, 0), word == 0 ? 39 : 0);
            Check.number("15 50 " + word, goes(50, word, 0, 39), word == 0 ? 0 : 39);
            Check.number("15 51 " + word, goes(51, word, 39, 0), word < 0 ? 39 : 0);
            Check.number("15 51 " + word, goes(51, word, 0, 39), word < 0 ? 0 : 39);
            Check.number("15 52 " + word, goes(52, word, 39, 0), 0);
        }
        Drumline x = Code.overflowed();
        x.put(3, Code.of(52, 39, 40));
        Check.number("12 a stop", x.run(1), 'i');
        Check.same("16 a stop leaves it noted", x.isOverflow(), true);
        x.put(3, Code.of(52, 3, 0));
        Check.number("12 it goes to itself", x.run(1), '-');
        Check.number("15 it goes to itself", x.next(), 3);
        Check.same("16 noted no more", x.isOverflow(), false);
        x.run(1);
        Check.number("15 then on", x.next(), 0);
        for (int operation : new int[] {50, 51}) {
            Drumline y = Code.overflowed();
            y.put(3, Code.of(operation, 39, 4));
            y.run(1);
            Check.same("16 stays noted", y.isOverflow(), true);
        }
    }

    private static void finds(long accumulator, long word, boolean isFound) {
        Drumline x = Code.holding(9, accumulator);
        x.put(3, Code.of(60, 39, 4));
        x.put(39, word);
        Check.number("12 60", x.run(1), '-');
        Check.number("14 60 " + word + " for " + accumulator, x.extension(), isFound ? 39 : -1);
        Check.number("13 60 leaves it", x.accumulator(), accumulator);
    }

    /** 60: "a word not less than the accumulator, and makes the extension its address, or -1 if there is none". */
    private static void looks() {
        finds(5, 4, false);
        finds(5, 5, true);
        finds(5, 6, true);
        finds(-5, -6, false);
        finds(-5, -5, true);
        finds(-5, 0, true);
        finds(0, 0, true);
        finds(0, -1, false);
        finds(Code.BIG, Code.BIG, true);
        finds(Code.BIG, Code.BIG - 1, false);
        finds(-Code.BIG, -Code.BIG, true);
        finds(4294967296L, 0, false);
        for (int d = 10; d < 40; d++) {
            for (int found = d; found < d - d % 10 + 10; found++) {
                Drumline x = Code.with(Code.of(12, 1, 2), 3, Code.of(60, d, 5));
                x.put(found, 3);
                x.run(2);
                Check.number("14 60 from " + d, x.extension(), found);
                Check.number("15 60 from " + d, x.next(), 5);
            }
        }
    }
}
