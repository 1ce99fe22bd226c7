/** Instructions, and machines that stand ready for a test. */
final class Code {
    static final long BIG = 9999999999L;
    static final long NO_WORD = 10000000000L;
    /** Every operation that there is. */
    static final int[] OPERATIONS = {10, 11, 12, 20, 30, 31, 40, 41, 42, 50, 51, 52, 60, 70, 71, 99};

    private Code() {
    }

    static long of(int operation, int d, int n) {
        return operation * 100000000L + d * 10000L + n;
    }

    /** A new machine with words from the address 0 on. */
    static Drumline with(long... words) {
        Drumline x = new Drumline();
        for (int address = 0; address < words.length; address++) {
            x.put(address, words[address]);
        }
        return x;
    }

    /**
     * A machine with an extension from -9999999998 to 9999999998 and an accumulator, 3 instructions after the
     * beginning; the next one comes at 3.
     */
    static Drumline holding(long extension, long accumulator) {
        Drumline x = with(of(12, 20, 1), of(31, 21, 2), of(12, 22, 3));
        x.put(20, extension);
        x.put(21, BIG);
        x.put(22, accumulator);
        x.run(3);
        return x;
    }

    /** The same behind one more operation, at 3 with N = 4; its D is 23, where the word is. */
    static Drumline did(int operation, long extension, long accumulator, long word) {
        Drumline x = holding(extension, accumulator);
        x.put(3, of(operation, 23, 4));
        x.put(23, word);
        Check.number("12 " + operation, x.run(1), '-');
        return x;
    }

    /** The same behind one shift, at 3 with N = 4. */
    static Drumline shifted(int operation, long accumulator, int count) {
        Drumline x = holding(77, accumulator);
        x.put(3, of(operation, count, 4));
        Check.number("12 " + operation, x.run(1), '-');
        Check.number("14 a shift leaves the extension", x.extension(), 77);
        return x;
    }

    /** A machine whose accumulator came by an overflow that is noted; the next instruction comes at 3. */
    static Drumline overflowed() {
        Drumline x = with(of(12, 20, 1), of(10, 21, 2), of(12, 22, 3));
        x.put(20, BIG);
        x.put(21, 1);
        x.put(22, 5);
        x.run(3);
        Check.same("16 noted", x.isOverflow(), true);
        return x;
    }
}
