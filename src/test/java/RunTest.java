/** Promises 11 to 19 and 28: what instructions do, when the machine stops, and the beats that it takes. */
public final class RunTest {
    private static final long BIG = 9999999999L;

    public static void main(String[] args) {
        sums();
        products();
        quotients();
        shifts();
        branches();
        looks();
        timings();
        stops();
        stopOrder();
        starts();
        ranges();
        waitShares();
        Check.close();
    }

    /** One operation with a word, behind one that makes the accumulator another. */
    private static Drumline after(int operation, long accumulator, long word) {
        Drumline x = new Drumline();
        x.put(1, 1200040002L);
        x.put(2, operation * 100000000L + 50003);
        x.put(3, 9900000003L);
        x.put(4, accumulator);
        x.put(5, word);
        x.start(1);
        x.run(2);
        return x;
    }

    private static void came(String what, Drumline x, long accumulator, long extension, boolean isOverflow) {
        Check.number("13 " + what, x.accumulator(), accumulator);
        Check.number("14 " + what, x.extension(), extension);
        Check.same("16 " + what, x.isOverflow(), isOverflow);
    }

    private static void sums() {
        came("10", after(10, 3, -5), -2, 0, false);
        came("10 over", after(10, BIG, 1), 0, 0, true);
        came("10 over", after(10, BIG, BIG), BIG - 1, 0, true);
        came("10 under", after(10, -BIG, -3), -2, 0, true);
        came("10 up to the end", after(10, BIG - 1, 1), BIG, 0, false);
        came("11", after(11, 3, -5), 8, 0, false);
        came("11 under", after(11, -BIG, 1), 0, 0, true);
        came("11 down to the end", after(11, -BIG + 1, 1), -BIG, 0, false);
        came("12", after(12, 3, -5), -5, 0, false);
        Drumline x = after(20, -77, 5);
        Check.number("12 20", x.word(5), -77);
        came("20", x, -77, 0, false);
    }

    private static void products() {
        came("30", after(30, 7, -6), -42, 0, false);
        came("30 zero", after(30, 0, -6), 0, 0, false);
        came("30 big", after(30, BIG, BIG), 1, BIG - 1, false);
        came("30 big", after(30, -BIG, BIG), -1, -BIG + 1, false);
        came("30 both below", after(30, -BIG, -BIG), 1, BIG - 1, false);
        came("30 just behind", after(30, 100000, -100000), 0, -1, false);
        came("30", after(30, 1234567890L, 9876543210L), 1263526900L, 1219326311L, false);
    }

    /** Divides what a product left, so that the extension is not 0. */
    private static Drumline divided(long one, long other, long divisor) {
        Drumline x = new Drumline();
        x.put(0, 1200100001L);
        x.put(1, 3000110002L);
        x.put(2, 3100120003L);
        x.put(3, 9900000003L);
        x.put(10, one);
        x.put(11, other);
        x.put(12, divisor);
        x.run(3);
        return x;
    }

    private static void quotients() {
        came("31", after(31, 17, 5), 3, 2, false);
        came("31", after(31, -17, 5), -3, -2, false);
        came("31", after(31, 17, -5), -3, 2, false);
        came("31", after(31, -17, -5), 3, -2, false);
        came("31 none", after(31, -4, 5), 0, -4, false);
        came("31 by 1", after(31, BIG, 1), BIG, 0, false);
        came("31 of a product", divided(BIG, BIG, BIG), BIG, 0, false);
        came("31 of a product", divided(-BIG, BIG, BIG), -BIG, 0, false);
        came("31 over", divided(BIG, BIG, 1), 1, 0, true);
        came("31 over", divided(-BIG, BIG, -1), 1, 0, true);
        came("31 just over", divided(100000, -200000, 2), 0, 0, true);
        came("31 not over", divided(100000, 100000, 2), 5000000000L, 0, false);
        came("31 sign of the extension", divided(100000, -100000, 3), -3333333333L, -1, false);
    }

    private static Drumline shifted(int operation, long accumulator, int count) {
        Drumline x = new Drumline();
        x.put(0, 1200100001L);
        x.put(1, operation * 100000000L + count * 10000L + 2);
        x.put(2, 9900000002L);
        x.put(10, accumulator);
        x.run(2);
        return x;
    }

    private static void shifts() {
        came("40", shifted(40, 1234567890L, 3), 4567890000L, 0, false);
        came("40", shifted(40, -BIG, 9), -9000000000L, 0, false);
        came("40 all lost", shifted(40, -1000000000L, 1), 0, 0, false);
        came("41", shifted(41, 1234567890L, 3), 1234567, 0, false);
        came("41", shifted(41, -BIG, 9), -9, 0, false);
        came("41 all lost", shifted(41, -999999999, 9), 0, 0, false);
        came("42 down", shifted(42, 1234567490L, 3), 1234567, 0, false);
        came("42 up", shifted(42, 1234567500L, 3), 1234568, 0, false);
        came("42 below up", shifted(42, -1234567500L, 3), -1234568, 0, false);
        came("42 the last digit alone", shifted(42, 49, 2), 0, 0, false);
        came("42 the last digit alone", shifted(42, 50, 2), 1, 0, false);
        came("42 keeps the sign", shifted(42, -5, 1), -1, 0, false);
        came("42 carries", shifted(42, BIG, 1), 1000000000L, 0, false);
        came("42 by nine", shifted(42, -BIG, 9), -10, 0, false);
        for (int operation = 40; operation <= 42; operation++) {
            Check.number("12 shift by 0", begun(operation * 100000000L).run(1), 'i');
            Check.number("12 shift by 10", begun(operation * 100000000L + 100000).run(1), 'i');
        }
    }

    private static int goneTo(int operation, long accumulator) {
        Drumline x = shifted(operation, accumulator, 30);
        return x.next();
    }

    private static void branches() {
        Check.number("12 50 goes", goneTo(50, 0), 30);
        Check.number("12 50 stays", goneTo(50, 1), 2);
        Check.number("12 50 stays", goneTo(50, -1), 2);
        Check.number("12 51 goes", goneTo(51, -1), 30);
        Check.number("12 51 stays", goneTo(51, 0), 2);
        Check.number("12 51 stays", goneTo(51, 1), 2);
        Check.number("12 52 stays", goneTo(52, BIG), 2);
        Drumline x = after(10, BIG, 7);
        x.put(3, 5200070008L);
        x.put(7, 5200080009L);
        Check.number("12 52", x.run(1), '-');
        Check.number("15 52 goes", x.next(), 7);
        Check.same("16 noted no more", x.isOverflow(), false);
        Check.number("13 stays", x.accumulator(), 6);
        x.run(1);
        Check.number("15 52 stays", x.next(), 9);
        Check.number("19 branches count", x.done(), 4);
    }

    private static void looks() {
        Drumline x = new Drumline();
        x.put(0, 1200050001L);
        x.put(1, 6000330002L);
        x.put(2, 9900000000L);
        x.put(5, 10);
        x.put(33, 9);
        x.put(34, -10);
        x.put(35, 10);
        x.put(36, BIG);
        x.run(2);
        Check.number("14 60 found", x.extension(), 35);
        // 0: read; 1 to 4 wait; 5 D; 6, 7 the operation; 8 to 10 wait; 11 read; 12 wait; 13, 14, 15 looked at.
        Check.number("17 60", x.beat(), 16);
        Check.number("18 60", x.waits(), 8);
        x.put(35, 0);
        x.put(36, 0);
        x.start(0);
        x.run(2);
        Check.number("14 60 none up to the end of the band", x.extension(), -1);
        Check.number("17 60 none", x.beat(), 20);
        Check.number("13 60 leaves", x.accumulator(), 10);
        x.put(1, 6000390002L);
        x.start(0);
        x.run(2);
        Check.number("14 60 the last place", x.extension(), -1);
        x.put(39, 11);
        x.start(0);
        x.run(2);
        Check.number("14 60 the last place", x.extension(), 39);
        x.put(1, 6000330002L);
        x.fault(35, 10, 1);
        x.start(0);
        Check.number("12 60 wrong word", x.run(2), 'f');
        Check.number("14 60 wrong word", x.extension(), 0);
        Check.number("17 60 wrong word", x.beat(), 16);
        Check.number("15 60 wrong word", x.next(), 1);
        x.put(34, 10);
        x.start(0);
        Check.number("12 60 found ahead of it", x.run(2), '-');
        Check.number("14 60 found ahead of it", x.extension(), 34);
    }

    /** The beats of an operation at 0 with D = 1, which are those behind the reading without any wait. */
    private static void timing(int operation, int due) {
        Drumline x = new Drumline();
        x.put(0, operation * 100000000L + 10002);
        x.put(1, 8);
        x.addCard(1);
        Check.number("12 " + operation, x.run(1), '-');
        Check.number("17 " + operation, x.beat(), due);
        Check.number("18 " + operation, x.waits(), 0);
        Check.number("19 " + operation, x.done(), 1);
        Check.number("15 " + operation, x.next(), operation == 50 ? 1 : 2);
        x = new Drumline();
        x.put(9, operation * 100000000L + 80002);
        x.put(8, 1);
        x.addCard(1);
        x.start(9);
        x.run(1);
        boolean uses = operation < 40 || operation >= 60;
        Check.number("17 " + operation + " with waits", x.beat(), uses ? due + 17 : due + 9);
        Check.number("18 " + operation + " with waits", x.waits(), uses ? 17 : 9);
    }

    private static void timings() {
        int[][] due = {{10, 4}, {11, 4}, {12, 4}, {20, 3}, {30, 14}, {31, 18}, {40, 4}, {41, 4}, {42, 4}, {50, 2},
            {51, 2}, {52, 2}, {60, 2}, {70, 3}, {71, 6}};
        for (int[] pair : due) {
            timing(pair[0], pair[1]);
        }
        Drumline x = new Drumline();
        x.put(0, 7000010003L);
        x.put(3, 7100010000L);
        x.addCard(5);
        x.run(2);
        Check.number("10 the card", x.punchedAt(0), 5);
        Check.number("17 the card is waited for", x.beat(), 16);
        Check.number("18 the card is waited for", x.waits(), 7);
    }

    private static Drumline begun(long instruction) {
        Drumline x = new Drumline();
        x.put(0, instruction);
        return x;
    }

    private static void stop(String what, Drumline x, char due, int beats) {
        Check.number("12 " + what, x.run(3), due);
        Check.number("17 " + what, x.beat(), beats);
        Check.number("15 " + what, x.next(), 0);
        Check.number("19 " + what, x.done(), 0);
        Check.number("12 again " + what, x.run(1), due);
        Check.same("17 again " + what, x.beat() > beats, true);
    }

    private static void stops() {
        stop("99", begun(9900000000L), 's', 1);
        stop("99 with any D", begun(9999990000L), 's', 1);
        stop("99 with a wrong N", begun(9900000040L), 'i', 1);
        stop("less than 0", begun(-9900000000L), 'i', 1);
        stop("D", begun(1000400000L), 'i', 1);
        stop("D of a branch", begun(5000400000L), 'i', 1);
        stop("N", begun(1000000040L), 'i', 1);
        int operations = 0;
        for (int operation = 0; operation <= 99; operation++) {
            operations += begun(operation * 100000000L + 10001).run(1) == 'i' ? 0 : 1;
        }
        Check.number("12 operations that there are", operations, 16);
        stop("no card", begun(7000050000L), 'c', 1);
        stop("division", begun(3100050000L), 'd', 6);
        for (int operation : new int[] {10, 11, 12, 30, 31, 71}) {
            Drumline x = begun(operation * 100000000L + 50001);
            x.fault(5, 3, 4);
            stop("wrong word " + operation, x, 'f', 6);
            came("wrong word " + operation, x, 0, 0, false);
        }
        for (int operation : new int[] {20, 70}) {
            Drumline x = begun(operation * 100000000L + 50001);
            x.fault(5, 3, 4);
            x.addCard(6);
            Check.number("12 writing does not look", x.run(1), '-');
            Check.same("5 writing puts it right", x.isGood(5), true);
        }
    }

    private static void stopOrder() {
        Drumline x = begun(9900000000L);
        x.fault(0, 3, 1);
        stop("a wrong instruction first", x, 'f', 1);
        x = begun(-9900000000L);
        x.fault(0, 3, 1);
        stop("a wrong instruction first", x, 'f', 1);
        x = begun(7000050040L);
        stop("unlawful ahead of no card", x, 'i', 1);
        x = begun(7000050000L);
        x.fault(5, 3, 4);
        stop("no card ahead of a wrong word", x, 'c', 1);
        x = begun(3100050000L);
        x.put(5, 3);
        x.fault(5, 10, 0);
        stop("a wrong word ahead of a division", x, 'f', 6);
        x = begun(3100050040L);
        stop("unlawful ahead of a division", x, 'i', 1);
    }

    private static void starts() {
        Drumline x = after(10, BIG, 7);
        Check.number("11 was to come", x.start(39), 3);
        came("11", x, 0, 0, false);
        Check.number("15 11", x.next(), 39);
        Check.number("17 11", x.beat(), 0);
        Check.number("18 11", x.waits(), 0);
        Check.number("19 11", x.done(), 0);
        Check.number("11 again", x.start(0), 39);
        for (int address : new int[] {-1, 40, Integer.MAX_VALUE, Integer.MIN_VALUE}) {
            Check.fails("11 address", IndexOutOfBoundsException.class, () -> x.start(address));
        }
        Check.number("15 unchanged", x.next(), 0);
    }

    private static void ranges() {
        Drumline x = begun(4000010000L);
        for (int steps : new int[] {0, -1, 101, Integer.MAX_VALUE, Integer.MIN_VALUE}) {
            Check.fails("12 steps", IllegalArgumentException.class, () -> x.run(steps));
        }
        Check.number("19 unchanged", x.done(), 0);
        Check.number("12 one", x.run(1), '-');
        Check.number("19 one", x.done(), 1);
        Check.number("12 a hundred", x.run(100), '-');
        Check.number("19 a hundred more", x.done(), 101);
        Check.number("17 a hundred and one", x.beat(), 1004);
    }

    private static void waitShares() {
        Drumline x = begun(4000010000L);
        Check.fails("28 none", ArithmeticException.class, x::waitShare);
        x.run(1);
        Check.same("28 no waits", x.waitShare(), 0.0f);
        x.run(1);
        Check.same("28", x.waitShare(), 6.0f / 14.0f);
        x.start(0);
        Check.fails("28 none again", ArithmeticException.class, x::waitShare);
    }
}
