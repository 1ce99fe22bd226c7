/** The edges of the operations that reckon, sentence by sentence: the digits of sums, products, quotients, shifts. */
public final class SumEdgeTest {
    private static final long BIG = Code.BIG;

    public static void main(String[] args) {
        nothingHeldAtFirst();
        sumsUpToTheEnd();
        sumsBeyondTheEnd();
        differencesUpToTheEnd();
        differencesBeyondTheEnd();
        overflowStaysNoted();
        taken();
        written();
        productsOfTenDigits();
        productsBeyondTenDigits();
        productsReplaceTheExtension();
        productsAreNoOverflow();
        quotientsCut();
        quotientsOfTwentyDigits();
        quotientsUpToTheEnd();
        quotientsBeyondTheEnd();
        signOfTheNumber();
        shiftsToTheLeft();
        shiftsToTheRight();
        shiftsThatRound();
        shiftsAreNoOverflow();
        Check.close();
    }

    private static void came(String what, Drumline x, long accumulator, long extension, boolean isOverflow) {
        Check.number("13 " + what, x.accumulator(), accumulator);
        Check.number("14 " + what, x.extension(), extension);
        Check.same("16 " + what, x.isOverflow(), isOverflow);
    }

    /** One operation on an extension of 77, which sums leave. */
    private static void sum(int operation, long accumulator, long word, long due, boolean isOverflow) {
        String what = operation + " " + accumulator + " " + word;
        Drumline x = Code.did(operation, 77, accumulator, word);
        came(what, x, due, 77, isOverflow);
        Check.number("3 the word stays, " + what, x.word(23), word);
    }

    /** "The accumulator and the extension hold a word each, 0 at first"; no overflow is noted. */
    private static void nothingHeldAtFirst() {
        came("at first", new Drumline(), 0, 0, false);
    }

    /** 10 "adds the word at D to the accumulator": sums of exactly 10 digits are no overflow. */
    private static void sumsUpToTheEnd() {
        sum(10, 0, 0, 0, false);
        sum(10, BIG - 1, 1, BIG, false);
        sum(10, 1, BIG - 1, BIG, false);
        sum(10, 0, BIG, BIG, false);
        sum(10, BIG, 0, BIG, false);
        sum(10, 1 - BIG, -1, -BIG, false);
        sum(10, 0, -BIG, -BIG, false);
        sum(10, BIG, -BIG, 0, false);
        sum(10, 2147483647, 1, 2147483648L, false);
        sum(10, -BIG, 1, 1 - BIG, false);
    }

    /** "A sum that has more than 10 digits is noted; the last 10 digits stay, with the sign." */
    private static void sumsBeyondTheEnd() {
        sum(10, BIG, 1, 0, true);
        sum(10, 1, BIG, 0, true);
        sum(10, BIG, 2, 1, true);
        sum(10, BIG, BIG, BIG - 1, true);
        sum(10, -BIG, -1, 0, true);
        sum(10, -BIG, -2, -1, true);
        sum(10, -BIG, -BIG, 1 - BIG, true);
        sum(10, 5000000000L, 5000000000L, 0, true);
        sum(10, 5000000000L, 4999999999L, BIG, false);
    }

    /** 11 "subtracts it": differences of exactly 10 digits are no overflow. */
    private static void differencesUpToTheEnd() {
        sum(11, 0, 0, 0, false);
        sum(11, BIG - 1, -1, BIG, false);
        sum(11, 0, -BIG, BIG, false);
        sum(11, 0, BIG, -BIG, false);
        sum(11, 1 - BIG, 1, -BIG, false);
        sum(11, BIG, BIG, 0, false);
        sum(11, -BIG, -BIG, 0, false);
        sum(11, 3, 5, -2, false);
    }

    /** The same, beyond. */
    private static void differencesBeyondTheEnd() {
        sum(11, BIG, -1, 0, true);
        sum(11, BIG, -2, 1, true);
        sum(11, BIG, -BIG, BIG - 1, true);
        sum(11, -BIG, 1, 0, true);
        sum(11, -BIG, 2, -1, true);
        sum(11, -BIG, BIG, 1 - BIG, true);
    }

    /** "An overflow is noted": up to 52 or a beginning, whatever is done between, a second one too. */
    private static void overflowStaysNoted() {
        Drumline x = Code.overflowed();
        came("noted", x, 5, 0, true);
        int[] operations = {10, 11, 12, 20, 30, 31, 60, 71};
        for (int i = 0; i < operations.length; i++) {
            x.put(3 + i, Code.of(operations[i], 22, 4 + i));
        }
        x.put(11, Code.of(50, 39, 12));
        x.put(12, Code.of(51, 39, 13));
        x.put(13, Code.of(40, 1, 14));
        x.put(14, Code.of(10, 20, 15));
        x.put(15, Code.of(10, 20, 16));
        x.put(16, Code.of(52, 18, 17));
        x.put(17, Code.of(99, 0, 0));
        x.put(18, Code.of(52, 17, 19));
        for (int i = 0; i < 13; i++) {
            Check.number("12 step " + i, x.run(1), '-');
            Check.same("16 step " + i, x.isOverflow(), true);
        }
        x.run(1);
        Check.same("16 noted no more", x.isOverflow(), false);
        Check.number("15 it went to D", x.next(), 18);
        x.run(1);
        Check.number("15 it doesn't go again", x.next(), 19);
        Drumline y = Code.overflowed();
        y.start(0);
        Check.same("16 a beginning", y.isOverflow(), false);
        Drumline z = Code.overflowed();
        z.put(3, Code.of(60, 38, 4));
        z.put(4, Code.of(70, 38, 5));
        z.put(5, Code.of(41, 1, 6));
        z.addCard(3);
        for (int i = 0; i < 4; i++) {
            Check.number("12 then step " + i, z.run(1), i < 3 ? '-' : 'i');
            Check.same("16 then step " + i, z.isOverflow(), true);
        }
        Check.number("14 60 that finds none", z.extension(), -1);
    }

    /** 12 "makes the accumulator this word": the least and the greatest; what was noted stays out of it. */
    private static void taken() {
        sum(12, 5, BIG, BIG, false);
        sum(12, BIG, -BIG, -BIG, false);
        sum(12, -BIG, 0, 0, false);
    }

    /** 20 "writes the accumulator to D": the least, the greatest and 0. */
    private static void written() {
        for (long word : new long[] {BIG, -BIG, 0, -1}) {
            Drumline x = Code.did(20, 77, word, 6);
            came("20", x, word, 77, false);
            Check.number("3 by 20", x.word(23), word);
            Check.same("5 by 20", x.isGood(23), true);
        }
    }

    private static void product(long one, long other, long extension, long accumulator) {
        came("30 " + one + " " + other, Code.did(30, 77, one, other), accumulator, extension, false);
        came("30 " + other + " " + one, Code.did(30, -77, other, one), accumulator, extension, false);
    }

    /** 30: "the product's last 10 digits, with its sign, are the accumulator then": no digits ahead of them. */
    private static void productsOfTenDigits() {
        product(0, 0, 0, 0);
        product(1, BIG, 0, BIG);
        product(-1, BIG, 0, -BIG);
        product(-1, -BIG, 0, BIG);
        product(99999, 100000, 0, 9999900000L);
        product(99999, 99999, 0, 9999800001L);
        product(3333333333L, 3, 0, BIG);
        product(-3333333333L, 3, 0, -BIG);
        product(2147483648L, 4, 0, 8589934592L);
    }

    /** "The digits ahead of them, with its sign, the extension." */
    private static void productsBeyondTenDigits() {
        product(100000, 100000, 1, 0);
        product(-100000, 100000, -1, 0);
        product(-100000, -100000, 1, 0);
        product(100000, 100001, 1, 100000);
        product(2, BIG, 1, BIG - 1);
        product(-2, BIG, -1, 1 - BIG);
        product(BIG, BIG, BIG - 1, 1);
        product(-BIG, BIG, 1 - BIG, -1);
        product(-BIG, -BIG, BIG - 1, 1);
        product(5000000000L, 2, 1, 0);
        product(9999900000L, 9999900000L, 9999800001L, 0);
        product(9999999990L, 1000000001, 999999999, 9999999990L);
        // What is carried from the last 10 digits comes to exactly 1, and they are 0.
        product(120000, 250000, 3, 0);
        product(-120000, 250000, -3, 0);
        product(4000000000L, 2500000000L, 1000000000, 0);
        product(9999975000L, 9999960000L, 9999935000L, 1000000000);
    }

    /** 30 makes the extension 0 if there are no digits ahead. */
    private static void productsReplaceTheExtension() {
        came("30", Code.did(30, BIG - 1, 2, 3), 6, 0, false);
        came("30", Code.did(30, 1 - BIG, 0, 3), 0, 0, false);
    }

    /** "An overflow, a sum or a quotient that has more than 10 digits": a product is none. */
    private static void productsAreNoOverflow() {
        Check.same("16 30", Code.did(30, 0, BIG, BIG).isOverflow(), false);
        Check.same("16 30", Code.did(30, 0, -BIG, BIG).isOverflow(), false);
    }

    private static void quotient(long ext, long acc, long by, long accumulator, long extension, boolean isOverflow) {
        String what = "31 " + ext + " " + acc + " by " + by;
        Drumline x = Code.did(31, ext, acc, by);
        came(what, x, accumulator, extension, isOverflow);
        Check.number("3 the word stays, " + what, x.word(23), by);
    }

    /** 31: "the accumulator becomes the quotient, cut towards 0, the extension what is left". */
    private static void quotientsCut() {
        quotient(0, 0, 7, 0, 0, false);
        quotient(0, 0, -7, 0, 0, false);
        quotient(0, 6, 7, 0, 6, false);
        quotient(0, -6, 7, 0, -6, false);
        quotient(0, 7, 7, 1, 0, false);
        quotient(0, 13, 7, 1, 6, false);
        quotient(0, -13, 7, -1, -6, false);
        quotient(0, 13, -7, -1, 6, false);
        quotient(0, -13, -7, 1, -6, false);
        quotient(0, BIG, BIG, 1, 0, false);
        quotient(0, BIG - 1, BIG, 0, BIG - 1, false);
        quotient(0, BIG, -BIG, -1, 0, false);
        quotient(0, BIG, 1, BIG, 0, false);
        quotient(0, BIG, -1, -BIG, 0, false);
        quotient(0, -BIG, 1, -BIG, 0, false);
        quotient(0, BIG, 10, 999999999, 9, false);
    }

    /** "The number of which the extension's digits are the first 10 ones and the accumulator's the last 10 ones." */
    private static void quotientsOfTwentyDigits() {
        quotient(1, 0, 2, 5000000000L, 0, false);
        quotient(1, 0, 3, 3333333333L, 1, false);
        quotient(1, 5, 10, 1000000000, 5, false);
        quotient(12, 34, 5678, 21134202L, 1078, false);
        quotient(1234567890, 987654321, 1234567891, 9999999992L, 864197449, false);
        quotient(1234567890, 0, BIG, 1234567890, 1234567890, false);
    }

    /** "A quotient that has more than 10 digits": one of exactly 10 is none. */
    private static void quotientsUpToTheEnd() {
        quotient(BIG - 1, BIG, BIG, BIG, BIG - 1, false);
        quotient(1 - BIG, -BIG, BIG, -BIG, 1 - BIG, false);
        quotient(1 - BIG, -BIG, -BIG, BIG, 1 - BIG, false);
        quotient(BIG - 1, 1, BIG, BIG, 0, false);
        quotient(1, BIG, 2, BIG, 1, false);
        quotient(6, BIG, 7, BIG, 6, false);
        quotient(0, BIG, 1, BIG, 0, false);
    }

    /** "The last 10 digits stay, with the sign": of 11 digits up to 20. */
    private static void quotientsBeyondTheEnd() {
        quotient(2, 0, 2, 0, 0, true);
        quotient(7, 0, 7, 0, 0, true);
        quotient(7, 7, 7, 1, 0, true);
        quotient(-7, 7, 7, -1, 0, true);
        quotient(-7, 7, -7, 1, 0, true);
        quotient(7, 13, -7, -1, 6, true);
        quotient(1, 0, 1, 0, 0, true);
        quotient(BIG - 1, BIG, 1, BIG, 0, true);
        quotient(BIG - 1, BIG, -1, -BIG, 0, true);
        quotient(BIG - 1, BIG, 9, BIG, 8, true);
        quotient(1 - BIG, 0, 7, -2857142857L, -1, true);
        quotient(BIG - 1, 0, BIG - 1, 0, 0, true);
        quotient(BIG - 1, BIG, BIG - 1, 1, 1, true);
    }

    /** "With the sign of the extension, or of the accumulator if the extension is 0"; what is left has it too. */
    private static void signOfTheNumber() {
        quotient(1, -5, 3, 3333333335L, 0, false);
        quotient(1, -3, 4, 2500000000L, 3, false);
        quotient(-1, 3, 4, -2500000000L, -3, false);
        quotient(-1, -3, 4, -2500000000L, -3, false);
        quotient(-1, 3, -4, 2500000000L, -3, false);
        quotient(1, -3, -4, -2500000000L, 3, false);
        quotient(0, -3, 4, 0, -3, false);
        quotient(0, 3, -4, 0, 3, false);
        quotient(-2, 0, 3, -6666666666L, -2, false);
    }

    private static void shift(int operation, long accumulator, int count, long due) {
        Drumline x = Code.shifted(operation, accumulator, count);
        came(operation + " " + accumulator + " by " + count, x, due, 77, false);
    }

    /** 40 "shifts the digits of the accumulator to the left by D"; "what is shifted out is lost, 0 comes in". */
    private static void shiftsToTheLeft() {
        long due = 1234567899;
        for (int count = 1; count <= 9; count++) {
            due = due % 1000000000 * 10;
            shift(40, 1234567899, count, due);
            shift(40, -1234567899, count, -due);
        }
        shift(40, 0, 1, 0);
        shift(40, 0, 9, 0);
        shift(40, 1, 9, 1000000000);
        shift(40, -1, 9, -1000000000);
        shift(40, BIG, 1, 9999999990L);
        shift(40, BIG, 9, 9000000000L);
        shift(40, 999999999, 1, 9999999990L);
        shift(40, 1000000000, 1, 0);
        shift(40, -9000000000L, 1, 0);
        shift(40, 9999999990L, 9, 0);
    }

    /** 41 "to the right by D". */
    private static void shiftsToTheRight() {
        long due = BIG;
        for (int count = 1; count <= 9; count++) {
            due = due / 10;
            shift(41, BIG, count, due);
            shift(41, -BIG, count, -due);
        }
        shift(41, 0, 9, 0);
        shift(41, 9, 1, 0);
        shift(41, -9, 1, 0);
        shift(41, 10, 1, 1);
        shift(41, 19, 1, 1);
        shift(41, -19, 1, -1);
        shift(41, 1000000000, 9, 1);
        shift(41, 999999999, 9, 0);
    }

    /** 42 "likewise, and adds 1 to the number without its sign if the last digit that was shifted out is 5 or more". */
    private static void shiftsThatRound() {
        for (int last = 0; last <= 9; last++) {
            int up = last >= 5 ? 1 : 0;
            shift(42, 120 + last, 1, 12 + up);
            shift(42, -120 - last, 1, -12 - up);
            shift(42, last, 1, up);
            shift(42, -last, 1, -up);
            shift(42, 3000000000L + last * 100000000L + 99999999, 9, 3 + up);
            shift(42, 3000000000L + last * 100000000L, 9, 3 + up);
            shift(42, 70000 + last * 1000 + 999, 4, 7 + up);
            shift(42, -70000 - last * 1000, 4, -7 - up);
        }
        shift(42, BIG, 1, 1000000000);
        shift(42, -BIG, 1, -1000000000);
        shift(42, BIG, 9, 10);
        shift(42, 0, 9, 0);
        shift(42, 499999999, 9, 0);
        shift(42, -499999999, 9, 0);
        shift(42, 500000000, 9, 1);
        shift(42, -500000000, 9, -1);
    }

    /** A shift notes no overflow, and leaves one that was noted. */
    private static void shiftsAreNoOverflow() {
        Check.same("16 40", Code.shifted(40, BIG, 9).isOverflow(), false);
        for (int operation = 40; operation <= 42; operation++) {
            Drumline x = Code.overflowed();
            x.put(3, Code.of(operation, 1, 4));
            x.run(1);
            Check.same("16 stays noted", x.isOverflow(), true);
        }
    }
}
