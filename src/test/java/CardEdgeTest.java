/** The edges of cards, the panel and punched words, sentence by sentence: promises 6 to 10 and 29. */
public final class CardEdgeTest {
    private static final long CARD = 1234567890;

    public static void main(String[] args) {
        ownNumberAtFirst();
        eachColumn();
        noneAndZero();
        oneColumnForAll();
        wiredWhenItIsRead();
        panelStays();
        noNumbersToWire();
        leastAndGreatestCard();
        noCards();
        fullDeck();
        emptyDeck();
        orderOfCards();
        punchedNothing();
        punchedIndexes();
        punchedWords();
        punchedStays();
        meanOfNothing();
        meanOfWords();
        meanOfMany();
        upToTheLastCall();
        Check.close();
    }

    /** The word that comes of the first card: 70 at 0 into 1. */
    private static long read(Drumline x) {
        x.put(0, Code.of(70, 1, 2));
        x.start(0);
        Check.number("12 read", x.run(1), '-');
        Check.same("5 a card is good", x.isGood(1), true);
        return x.word(1);
    }

    /** "The panel wires each digit of the word that is read to a column, at first each one to that of its number." */
    private static void ownNumberAtFirst() {
        Drumline x = new Drumline();
        x.addCard(CARD);
        x.addCard(Code.BIG);
        Check.number("6 at first", read(x), CARD);
        Check.number("6 at first", read(x), Code.BIG);
        for (int digit = 1; digit <= 10; digit++) {
            Check.number("6 at first", x.wire(digit, digit), digit);
        }
    }

    /** wire "Returns the column before", for each digit and each column from 1 to 10. */
    private static void eachColumn() {
        for (int digit = 1; digit <= 10; digit++) {
            Drumline x = new Drumline();
            int before = digit;
            for (int column = 1; column <= 10; column++) {
                Check.number("6 the column before", x.wire(digit, column), before);
                before = column;
                x.addCard(CARD);
                StringBuilder due = new StringBuilder("1234567890");
                due.setCharAt(digit - 1, due.charAt(column - 1));
                Check.number("6 digit " + digit + " of " + column, read(x), Long.parseLong(due.toString()));
            }
        }
    }

    /** "Or to none, 0 then"; wire returns "the column before, or 0". */
    private static void noneAndZero() {
        Drumline x = new Drumline();
        for (int digit = 1; digit <= 10; digit++) {
            Check.number("6 to none", x.wire(digit, 0), digit);
            Check.number("6 none before", x.wire(digit, 0), 0);
            x.addCard(Code.BIG);
            long due = 0;
            for (int i = 1; i <= 10; i++) {
                due = 10 * due + (i <= digit ? 0 : 9);
            }
            Check.number("6 the first " + digit + " are none", read(x), due);
        }
        Check.number("6 wired again", x.wire(10, 1), 0);
        x.addCard(7000000000L);
        Check.number("6 the last one alone", read(x), 7);
    }

    /** A column may go to any number of digits. */
    private static void oneColumnForAll() {
        Drumline x = new Drumline();
        for (int digit = 1; digit <= 10; digit++) {
            x.wire(digit, 10);
        }
        x.addCard(1234567896);
        Check.number("6 one for all", read(x), 6666666666L);
    }

    /** "The panel wires each digit of the word that is read": as it is then, not as it was when the card came. */
    private static void wiredWhenItIsRead() {
        Drumline x = new Drumline();
        x.addCard(CARD);
        x.addCard(CARD);
        x.wire(1, 9);
        x.wire(9, 0);
        Check.number("6 wired behind the card", read(x), 9234567800L);
        x.wire(1, 1);
        x.wire(9, 9);
        Check.number("6 wired back", read(x), CARD);
        x.wire(10, 1);
        x.addCard(CARD);
        x.wire(10, 10);
        Check.number("6 wired only when the card came", read(x), CARD);
    }

    /** The panel stays, whatever begins, is assembled or emptied. */
    private static void panelStays() {
        Drumline x = new Drumline();
        for (int digit = 1; digit <= 10; digit++) {
            x.wire(digit, 11 - digit);
        }
        x.addLine(99, 0, 0);
        x.assemble(true);
        x.run(1);
        x.isSound();
        x.clearSource();
        x.start(5);
        x.addCard(CARD);
        x.put(1, -CARD);
        Check.number("6 still wired, and without the sign of the word before", read(x), 987654321);
        for (int digit = 1; digit <= 10; digit++) {
            Check.number("6 still wired", x.wire(digit, digit), 11 - digit);
        }
    }

    /** "Throws IllegalArgumentException if a number is out of range": 0 and 11, -1 and 11. */
    private static void noNumbersToWire() {
        Drumline x = new Drumline();
        for (int wrong : new int[] {-1, 11, 12, Integer.MAX_VALUE, Integer.MIN_VALUE}) {
            Check.fails("6 digit " + wrong, IllegalArgumentException.class, () -> x.wire(wrong, 1));
            Check.fails("6 column " + wrong, IllegalArgumentException.class, () -> x.wire(1, wrong));
            Check.fails("6 column " + wrong, IllegalArgumentException.class, () -> x.wire(10, wrong));
            Check.fails("6 both " + wrong, IllegalArgumentException.class, () -> x.wire(wrong, wrong));
        }
        Check.fails("6 digit 0", IllegalArgumentException.class, () -> x.wire(0, 1));
        Check.fails("6 digit 0", IllegalArgumentException.class, () -> x.wire(0, 0));
        x.addCard(CARD);
        Check.number("6 unchanged", read(x), CARD);
    }

    /** "A card has 10 columns, each with a digit, told as a word not less than 0." */
    private static void leastAndGreatestCard() {
        Drumline x = new Drumline();
        long[] cards = {0, Code.BIG, 1, 1000000000, 4294967296L, 2147483648L};
        for (int i = 0; i < cards.length; i++) {
            Check.number("7 left", x.addCard(cards[i]), i + 1);
        }
        x.put(1, 5);
        for (long card : cards) {
            Check.number("7 card", read(x), card);
        }
    }

    /** addCard "Throws IllegalArgumentException if it is less than 0, or no word", ahead of a full deck. */
    private static void noCards() {
        Drumline x = new Drumline();
        long[] wrong = {-1, -5, Code.NO_WORD, -Code.BIG, -Code.NO_WORD, 1L << 40, Long.MAX_VALUE, Long.MIN_VALUE};
        for (long card : wrong) {
            Check.fails("7 " + card, IllegalArgumentException.class, () -> x.addCard(card));
        }
        Check.number("8 unchanged", x.cards(), 0);
        for (int i = 0; i < 20; i++) {
            x.addCard(i);
        }
        for (long card : wrong) {
            Check.fails("7 first " + card, IllegalArgumentException.class, () -> x.addCard(card));
        }
        Check.number("8 unchanged", x.cards(), 20);
    }

    /** "Throws IllegalStateException if 20 are left": the 20th goes, the 21st doesn't, up to one that is read. */
    private static void fullDeck() {
        Drumline x = new Drumline();
        for (int i = 1; i <= 20; i++) {
            Check.number("7 left", x.addCard(i), i);
            Check.number("8 left", x.cards(), i);
        }
        Check.fails("7 full", IllegalStateException.class, () -> x.addCard(21));
        Check.fails("7 full", IllegalStateException.class, () -> x.addCard(0));
        Check.number("8 full", x.cards(), 20);
        Check.number("7 the first one", read(x), 1);
        Check.number("8 one less", x.cards(), 19);
        Check.number("7 room for one", x.addCard(22), 20);
        Check.fails("7 full again", IllegalStateException.class, () -> x.addCard(23));
        for (int i = 2; i <= 20; i++) {
            Check.number("7 in their order", read(x), i);
        }
        Check.number("7 what was refused isn't there", read(x), 22);
        Check.number("8 none", x.cards(), 0);
    }

    /** cards "Returns how many cards are left": none at first, none behind the last one; 'c' then. */
    private static void emptyDeck() {
        Drumline x = new Drumline();
        Check.number("8 at first", x.cards(), 0);
        x.put(0, Code.of(70, 1, 0));
        Check.number("12 none at first", x.run(1), 'c');
        x.addCard(3);
        Check.number("12 one", x.run(2), 'c');
        Check.number("8 none left", x.cards(), 0);
        Check.number("3 the last card", x.word(1), 3);
        Check.number("7 from 1 again", x.addCard(4), 1);
        x.start(0);
        Check.number("11 leaves them", x.cards(), 1);
        x.clearSource();
        Check.number("22 leaves them", x.cards(), 1);
    }

    /** "Cards are read in the order in which they were added", however many are left between. */
    private static void orderOfCards() {
        Drumline x = new Drumline();
        int added = 0;
        int taken = 0;
        for (int round = 0; round < 9; round++) {
            while (added - taken < 1 + round * 7 % 20) {
                Check.number("7 left", x.addCard(added), added - taken + 1);
                added++;
            }
            while (added - taken > round % 3) {
                Check.number("7 order", read(x), taken);
                taken++;
            }
        }
        Check.number("8 left", x.cards(), added - taken);
    }

    /** Nothing punched yet: punched is 0, and there is no index. */
    private static void punchedNothing() {
        Drumline x = new Drumline();
        Check.number("9 at first", x.punched(), 0);
        for (int index : new int[] {0, -1, 1, Integer.MAX_VALUE, Integer.MIN_VALUE}) {
            Check.fails("10 at first " + index, IndexOutOfBoundsException.class, () -> x.punchedAt(index));
        }
        x.put(0, Code.of(71, 5, 0));
        x.fault(5, 1, 1);
        x.run(1);
        Check.number("9 a stop punches nothing", x.punched(), 0);
        Check.fails("10 a stop punches nothing", IndexOutOfBoundsException.class, () -> x.punchedAt(0));
    }

    /** "the index, from 0": the least, the greatest, and one beyond on each side. */
    private static void punchedIndexes() {
        Drumline x = Code.with(Code.of(71, 1, 2), 0, Code.of(71, 3, 4), 0, Code.of(71, 0, 0));
        x.put(1, 11);
        x.put(3, 13);
        for (int count = 1; count <= 3; count++) {
            x.run(1);
            int beyond = count;
            Check.number("9 count", x.punched(), count);
            Check.number("10 the first", x.punchedAt(0), 11);
            Check.number("10 the last", x.punchedAt(count - 1), count == 1 ? 11 : count == 2 ? 13 : Code.of(71, 1, 2));
            Check.fails("10 beyond", IndexOutOfBoundsException.class, () -> x.punchedAt(beyond));
            Check.fails("10 below", IndexOutOfBoundsException.class, () -> x.punchedAt(-1));
        }
    }

    /** 71 "punches the word at D": the least and the greatest word, as they were then. */
    private static void punchedWords() {
        Drumline x = Code.with(Code.of(71, 5, 0));
        long[] words = {0, Code.BIG, -Code.BIG, -1, 4294967296L};
        for (long word : words) {
            x.put(5, word);
            x.run(1);
        }
        x.put(5, 123);
        for (int i = 0; i < words.length; i++) {
            Check.number("10 word", x.punchedAt(i), words[i]);
        }
    }

    /** Punched words stay, whatever begins or is changed. */
    private static void punchedStays() {
        Drumline x = Code.with(Code.of(71, 1, 0), -8);
        x.run(2);
        x.start(0);
        x.put(1, 5);
        x.addLine(71, 0, 0);
        x.addDatum(6);
        x.assemble(true);
        x.isSound();
        x.clearSource();
        Check.number("9 stays", x.punched(), 2);
        Check.number("10 stays", x.punchedAt(1), -8);
        Check.same("29 stays", x.meanPunched(), -8.0);
    }

    /** meanPunched "Throws ArithmeticException if there were none". */
    private static void meanOfNothing() {
        Drumline x = Code.with(Code.of(71, 0, 0));
        Check.fails("29 none", ArithmeticException.class, x::meanPunched);
        x.run(1);
        Check.same("29 one", x.meanPunched(), (double) Code.of(71, 0, 0));
    }

    /** "Returns their sum divided by their number, both converted to double." */
    private static void meanOfWords() {
        Drumline x = Code.with(Code.of(71, 5, 0));
        long[] words = {1, 0, 0, -Code.BIG, Code.BIG, Code.BIG, 7};
        double[] due = {1.0, 0.5, 1.0 / 3.0, -9999999998.0 / 4.0, 1.0 / 5.0, 10000000000.0 / 6.0, 10000000007.0 / 7.0};
        for (int i = 0; i < words.length; i++) {
            x.put(5, words[i]);
            x.run(1);
            Check.same("29 of " + (i + 1), x.meanPunched(), due[i]);
        }
        Drumline y = Code.with(Code.of(71, 5, 0));
        y.put(5, 1);
        y.run(1);
        y.put(5, -1);
        y.run(1);
        Check.same("29 a sum of 0", y.meanPunched(), 0.0);
    }

    /** As many of the greatest words as the 512 calls of an object can punch. */
    private static void manyWords(long word, double mean) {
        Drumline x = Code.with(Code.of(71, 5, 0));
        x.put(5, word);
        for (int i = 0; i < 505; i++) {
            x.run(100);
        }
        Check.number("9 many", x.punched(), 50500);
        Check.number("10 many", x.punchedAt(50499), word);
        Check.number("10 many", x.punchedAt(0), word);
        Check.fails("10 many", IndexOutOfBoundsException.class, () -> x.punchedAt(50500));
        Check.same("29 many", x.meanPunched(), mean);
    }

    private static void meanOfMany() {
        manyWords(Code.BIG, 9999999999.0);
        manyWords(-Code.BIG, -9999999999.0);
    }

    /** A machine that has punched all that 511 calls can: its 512th call is to come. */
    private static Drumline punchedOut() {
        Drumline x = new Drumline();
        x.put(0, Code.of(71, 0, 0));
        for (int i = 0; i < 510; i++) {
            x.run(100);
        }
        return x;
    }

    /** "An object is used for at most 512 calls": the last one is answered as others are. */
    private static void upToTheLastCall() {
        Check.number("9 the last call", punchedOut().punched(), 51000);
        Check.number("10 the last call", punchedOut().punchedAt(50999), Code.of(71, 0, 0));
        Check.same("29 the last call", punchedOut().meanPunched(), 7100000000.0);
        Drumline x = punchedOut();
        Check.fails("10 the last call", IndexOutOfBoundsException.class, () -> x.punchedAt(51000));
        // 6 beats of the first one; then each waits 4 for its instruction and 9 for its word.
        Check.number("17 the last call", punchedOut().beat(), 15 + 50999 * 20);
        Check.number("18 the last call", punchedOut().waits(), 9 + 50999 * 14);
        Check.number("19 the last call", punchedOut().done(), 51000);
    }
}
