/** Promises 6 to 10 and 29: the panel, cards, punched words and their mean. */
public final class CardTest {
    public static void main(String[] args) {
        wires();
        deck();
        ring();
        punches();
        manyPunches();
        Check.close();
    }

    /** A machine that reads a card into 1, and a stop behind. */
    private static long read(Drumline x) {
        x.put(0, 7000010002L);
        x.put(2, 9900000002L);
        x.start(0);
        Check.number("12 read", x.run(2), 's');
        return x.word(1);
    }

    private static void wires() {
        Drumline x = new Drumline();
        for (int digit = 1; digit <= 10; digit++) {
            Check.number("6 at first", x.wire(digit, 11 - digit), digit);
        }
        Check.number("6 before", x.wire(1, 0), 10);
        Check.number("6 none before", x.wire(1, 0), 0);
        x.addCard(1234567890L);
        Check.number("6 reversed, without its first digit", read(x), 987654321L);
        x.wire(1, 1);
        x.wire(2, 1);
        x.addCard(7000000003L);
        Check.number("6 one column twice", read(x), 7700000007L);
        int[][] wrong = {{0, 1}, {11, 1}, {-1, 1}, {1, -1}, {1, 11}, {Integer.MAX_VALUE, 1}, {1, Integer.MIN_VALUE}};
        for (int[] pair : wrong) {
            Check.fails("6 range", IllegalArgumentException.class, () -> x.wire(pair[0], pair[1]));
        }
        Check.number("6 unchanged", x.wire(1, 1), 1);
    }

    private static void deck() {
        Drumline x = new Drumline();
        for (int i = 1; i <= 20; i++) {
            Check.number("7 left", x.addCard(i), i);
            Check.number("8 left", x.cards(), i);
        }
        Check.fails("7 full", IllegalStateException.class, () -> x.addCard(0));
        Check.fails("7 range first", IllegalArgumentException.class, () -> x.addCard(-1));
        Check.fails("7 range first", IllegalArgumentException.class, () -> x.addCard(10000000000L));
        Check.number("8 unchanged", x.cards(), 20);
        Check.number("7 first card", read(x), 1);
        Check.number("8 one read", x.cards(), 19);
        Check.number("7 room again", x.addCard(9999999999L), 20);
        for (int i = 2; i <= 20; i++) {
            Check.number("7 order", read(x), i);
        }
        Check.number("7 last", read(x), 9999999999L);
        Check.number("8 none", x.cards(), 0);
        Check.fails("7 range", IllegalArgumentException.class, () -> x.addCard(Long.MIN_VALUE));
        Check.fails("7 range", IllegalArgumentException.class, () -> x.addCard(Long.MAX_VALUE));
        Check.number("7 zero", x.addCard(0), 1);
        x.start(0);
        Check.number("11 leaves cards", x.cards(), 1);
    }

    private static void ring() {
        Drumline x = new Drumline();
        int added = 0;
        int taken = 0;
        for (int i = 0; i < 40; i++) {
            x.addCard(++added);
            if (i % 3 != 0) {
                Check.number("7 ring", read(x), ++taken);
            }
        }
        Check.number("8 ring", x.cards(), added - taken);
    }

    private static void punches() {
        Drumline x = new Drumline();
        Check.fails("29 none", ArithmeticException.class, x::meanPunched);
        Check.fails("10 none", IndexOutOfBoundsException.class, () -> x.punchedAt(0));
        x.put(0, 7100010002L);
        x.put(1, -9999999999L);
        x.put(2, 7100030004L);
        x.put(3, 2);
        x.put(4, 9900000000L);
        x.start(0);
        x.run(1);
        Check.number("9 one", x.punched(), 1);
        Check.same("29 one", x.meanPunched(), -9999999999.0);
        Check.number("12 end", x.run(9), 's');
        Check.number("9 two", x.punched(), 2);
        Check.number("10 first", x.punchedAt(0), -9999999999L);
        Check.number("10 second", x.punchedAt(1), 2);
        Check.same("29 two", x.meanPunched(), -4999999998.5);
        x.start(0);
        Check.number("11 leaves punched words", x.punched(), 2);
        x.put(1, 1);
        x.run(1);
        Check.same("29 three", x.meanPunched(), -9999999996.0 / 3.0);
        for (int index : new int[] {-1, 3, Integer.MAX_VALUE, Integer.MIN_VALUE}) {
            Check.fails("10 index", IndexOutOfBoundsException.class, () -> x.punchedAt(index));
        }
        x.fault(1, 10, 2);
        x.start(0);
        Check.number("12 wrong word", x.run(1), 'f');
        Check.number("9 nothing punched", x.punched(), 3);
    }

    /** As many words as 508 calls can punch, within the 512 calls of an object. */
    private static void manyPunches() {
        Drumline x = new Drumline();
        x.put(0, 7100000001L);
        x.put(1, 7100010000L);
        for (int i = 0; i < 506; i++) {
            x.run(100);
        }
        Check.number("9 many", x.punched(), 50600);
        Check.number("10 many", x.punchedAt(50599), 7100010000L);
        Check.fails("10 behind", IndexOutOfBoundsException.class, () -> x.punchedAt(50600));
        Check.same("29 many", x.meanPunched(), 7100005000.5);
    }
}
