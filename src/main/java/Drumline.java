import java.util.Arrays;
import java.util.NoSuchElementException;

/**
 * A decimal machine whose memory turns: words of ten digits with check digits on a drum, instructions with the
 * address of the next one, cards that are wired and punched, and an assembler that seeks the best places.
 */
public final class Drumline {
    private static final int ADDRESSES = 40;
    private static final int BAND_PLACES = 10;
    private static final int DIGITS = 10;
    private static final int MOST_CARDS = 20;
    private static final int MOST_STEPS = 100;
    private static final int MOST_LINES = 16;
    private static final int MOST_DATA = 8;
    private static final int SOUND_STEPS = 60;
    private static final int READY_BEHIND = 6;
    // An object is used for at most 512 calls, each of which punches at most one word a step.
    private static final int MOST_PUNCHED = 512 * MOST_STEPS;
    private static final int FIRST_PUNCH_ROOM = 64;
    private static final int NOWHERE = -1;

    /** The first number that has too many digits for a word. */
    private static final long WORD_END = 10000000000L;
    private static final long FIRST_DIGIT_UNIT = 1000000000L;
    private static final long HALF_WORD = 100000L;
    private static final long OPERATION_UNIT = 100000000L;
    private static final long REFERENCE_UNIT = 10000L;

    private static final char GOES_ON = '-';
    private static final char FAULT_STOP = 'f';
    private static final char UNLAWFUL_STOP = 'i';
    private static final char END_STOP = 's';
    private static final char CARD_STOP = 'c';
    private static final char DIVISION_STOP = 'd';

    private final Machine machine;
    private final Source source;
    private final Layout assembled;
    private final Layout weighed;
    private final Machine plainTrial;
    private final Machine placedTrial;
    private boolean isAssembled;

    /** Creates a machine with an empty drum, no cards and an empty source. */
    public Drumline() {
        machine = new Machine();
        source = new Source();
        assembled = new Layout();
        weighed = new Layout();
        plainTrial = new Machine();
        placedTrial = new Machine();
    }

    // The drum.

    /** Writes a word to the drum; returns the word before. */
    public long put(int address, long word) throws IndexOutOfBoundsException, IllegalArgumentException {
        checkAddress(address);
        checkWord(word);
        long before = machine.memory().at(address);
        machine.memory().write(address, word);
        return before;
    }

    /** Returns a word of the drum. */
    public long word(int address) throws IndexOutOfBoundsException {
        checkAddress(address);
        return machine.memory().at(address);
    }

    /** Makes a digit of a word on the drum another one, and leaves its check digit; returns the digit before. */
    public int fault(int address, int digit, int value) throws IndexOutOfBoundsException, IllegalArgumentException {
        checkAddress(address);
        if (digit < 1 || digit > DIGITS || value < 0 || value > 9) {
            throw new IllegalArgumentException("no such digit or value");
        }
        return machine.memory().spoil(address, digit, value);
    }

    /** Returns whether the check digit of a word on the drum is that of its digits. */
    public boolean isGood(int address) throws IndexOutOfBoundsException {
        checkAddress(address);
        return machine.memory().isRight(address);
    }

    // Cards.

    /** Wires a digit of words that are read to a column, or to none by 0; returns the column before. */
    public int wire(int digit, int column) throws IllegalArgumentException {
        if (digit < 1 || digit > DIGITS || column < 0 || column > DIGITS) {
            throw new IllegalArgumentException("no such digit or column");
        }
        return machine.reader().connect(digit, column);
    }

    /** Adds a card; returns the number of cards that are left. */
    public int addCard(long card) throws IllegalArgumentException, IllegalStateException {
        if (card < 0 || !Digits.isWord(card)) {
            throw new IllegalArgumentException("no card");
        }
        if (machine.reader().left() >= MOST_CARDS) {
            throw new IllegalStateException("no room for another card");
        }
        machine.reader().lay(card);
        return machine.reader().left();
    }

    /** Returns how many cards are left. */
    public int cards() {
        return machine.reader().left();
    }

    /** Returns how many words were punched. */
    public int punched() {
        return machine.punch().size();
    }

    /** Returns a word that was punched. */
    public long punchedAt(int index) throws IndexOutOfBoundsException {
        if (index < 0 || index >= machine.punch().size()) {
            throw new IndexOutOfBoundsException("no such punched word");
        }
        return machine.punch().at(index);
    }

    // Running.

    /** Begins at an address; returns the address of the instruction that was to come. */
    public int start(int address) throws IndexOutOfBoundsException {
        checkAddress(address);
        int before = machine.nextAddress();
        machine.begin(address);
        return before;
    }

    /** Does instructions, as many as told, or up to a stop; returns '-', or the stop. */
    public char run(int steps) throws IllegalArgumentException {
        if (steps < 1 || steps > MOST_STEPS) {
            throw new IllegalArgumentException("no such number of steps");
        }
        return machine.go(steps);
    }

    /** Returns the accumulator. */
    public long accumulator() {
        return machine.registers().lower();
    }

    /** Returns the extension. */
    public long extension() {
        return machine.registers().upper();
    }

    /** Returns the address of the instruction that comes next. */
    public int next() {
        return machine.nextAddress();
    }

    /** Returns whether an overflow is noted. */
    public boolean isOverflow() {
        return machine.registers().hasOverflow();
    }

    /** Returns the number of beats since the beginning. */
    public int beat() {
        return machine.time();
    }

    /** Returns how many of the beats were waits. */
    public int waits() {
        return machine.waited();
    }

    /** Returns how many instructions were done since the beginning. */
    public int done() {
        return machine.doneCount();
    }

    // Assembling.

    /** Adds a datum to the source; returns its number. */
    public int addDatum(long word) throws IllegalArgumentException, IllegalStateException {
        checkWord(word);
        if (source.dataCount() >= MOST_DATA) {
            throw new IllegalStateException("no room for another datum");
        }
        isAssembled = false;
        return source.appendDatum(word);
    }

    /** Adds a line to the source; returns its number. */
    public int addLine(int operation, int reference, int next) throws IllegalArgumentException, IllegalStateException {
        if (!Source.isLawful(operation, reference, next)) {
            throw new IllegalArgumentException("no such line");
        }
        if (source.lineCount() >= MOST_LINES) {
            throw new IllegalStateException("no room for another line");
        }
        isAssembled = false;
        return source.appendLine(operation, reference, next);
    }

    /** Empties the source; returns how many lines it had. */
    public int clearSource() {
        int before = source.lineCount();
        source.empty();
        isAssembled = false;
        return before;
    }

    /** Writes the source to the drum, by the best places or plainly; returns how many addresses are taken. */
    public int assemble(boolean isPlaced) throws IllegalStateException, NoSuchElementException {
        checkSource();
        assembled.choose(source, isPlaced);
        assembled.writeTo(machine.memory(), source);
        isAssembled = true;
        return source.lineCount() + source.dataCount();
    }

    /** Returns the address of a line, as it was assembled last. */
    public int placeOf(int line) throws IndexOutOfBoundsException, IllegalStateException {
        if (line < 0 || line >= source.lineCount()) {
            throw new IndexOutOfBoundsException("no such line");
        }
        checkAssembled();
        return assembled.lineAddress(line);
    }

    /** Returns the address of a datum, as it was assembled last. */
    public int placeOfDatum(int datum) throws IndexOutOfBoundsException, IllegalStateException {
        if (datum < 0 || datum >= source.dataCount()) {
            throw new IndexOutOfBoundsException("no such datum");
        }
        checkAssembled();
        return assembled.datumAddress(datum);
    }

    /** Returns the foretold beats, by the best places or plainly. */
    public int foretold(boolean isPlaced) throws IllegalStateException, NoSuchElementException {
        checkSource();
        weighed.choose(source, isPlaced);
        return weighed.beats(source);
    }

    // Figures.

    /** Returns 0 at first, then for each word by rising addresses 31 times itself plus the word. */
    public long checksum() {
        return machine.memory().total();
    }

    /** Returns the share of the beats that were waits. */
    public float waitShare() throws ArithmeticException {
        float all = (float) machine.time();
        if (all == 0.0f) {
            throw new ArithmeticException("no beats");
        }
        return (float) machine.waited() / all;
    }

    /** Returns the mean of the words that were punched. */
    public double meanPunched() throws ArithmeticException {
        double number = (double) machine.punch().size();
        if (number == 0.0) {
            throw new ArithmeticException("no punched words");
        }
        return (double) machine.punch().sum() / number;
    }

    /** Returns whether placing saves beats, or at least costs none, and alters no answer of the source. */
    public boolean isSound() {
        if (source.lineCount() == 0 || !source.isWhole()) {
            return true;
        }
        int plainBeats = tryOut(plainTrial, false);
        int placedBeats = tryOut(placedTrial, true);
        return placedBeats <= plainBeats && plainTrial.agreesWith(placedTrial);
    }

    /** Runs the source on an empty machine; returns the foretold beats. */
    private int tryOut(Machine trial, boolean isPlaced) {
        weighed.choose(source, isPlaced);
        trial.wipe();
        weighed.writeTo(trial.memory(), source);
        trial.begin(weighed.lineAddress(0));
        trial.go(SOUND_STEPS);
        return weighed.beats(source);
    }

    private static void checkAddress(int address) throws IndexOutOfBoundsException {
        if (!Drum.holds(address)) {
            throw new IndexOutOfBoundsException("no such address");
        }
    }

    private static void checkWord(long word) throws IllegalArgumentException {
        if (!Digits.isWord(word)) {
            throw new IllegalArgumentException("no word");
        }
    }

    private void checkSource() throws IllegalStateException, NoSuchElementException {
        if (source.lineCount() == 0) {
            throw new IllegalStateException("no lines");
        }
        if (!source.isWhole()) {
            throw new NoSuchElementException("no such line or datum");
        }
    }

    private void checkAssembled() throws IllegalStateException {
        if (!isAssembled) {
            throw new IllegalStateException("not assembled");
        }
    }

    /** Digits of words. */
    private static final class Digits {
        static boolean isWord(long number) {
            return number > -WORD_END && number < WORD_END;
        }

        static long magnitude(long number) {
            return number < 0 ? -number : number;
        }

        static long signed(long magnitude, boolean isNegative) {
            return isNegative ? -magnitude : magnitude;
        }

        /** The digits of a magnitude moved to the left; those that leave the word are lost. */
        static long movedLeft(long magnitude, int count) {
            long moved = magnitude;
            for (int i = 0; i < count && i < DIGITS; i++) {
                moved = moved % FIRST_DIGIT_UNIT * 10;
            }
            return moved;
        }

        static long movedRight(long magnitude, int count) {
            long moved = magnitude;
            for (int i = 0; i < count && i < DIGITS; i++) {
                moved /= 10;
            }
            return moved;
        }

        /** The digit with a number, 1 for the first one to 10 for the last. */
        static int digitOf(long magnitude, int number) {
            return (int) (movedRight(magnitude, DIGITS - number) % 10);
        }

        static int checkOf(long word) {
            long left = word < 0 ? -word : word;
            long sum = 0;
            for (int i = 0; i < DIGITS; i++) {
                sum += left % 10;
                left /= 10;
            }
            return (int) (sum % 10);
        }
    }

    /** The operations, and the parts of an instruction. */
    private static final class Operations {
        static final int ADD = 10;
        static final int SUBTRACT = 11;
        static final int TAKE = 12;
        static final int WRITE = 20;
        static final int MULTIPLY = 30;
        static final int DIVIDE = 31;
        static final int LEFT = 40;
        static final int RIGHT = 41;
        static final int ROUND = 42;
        static final int IF_ZERO = 50;
        static final int IF_LESS = 51;
        static final int IF_OVERFLOW = 52;
        static final int LOOK = 60;
        static final int CARD = 70;
        static final int PUNCH = 71;
        static final int STOP = 99;

        /** The beats of an operation behind those for its D, or -1 if there is no such operation. */
        static int beats(int operation) {
            switch (operation) {
                case ADD:
                case SUBTRACT:
                case TAKE:
                    return 2;
                case MULTIPLY:
                    return 12;
                case DIVIDE:
                    return 16;
                case LEFT:
                case RIGHT:
                case ROUND:
                    return 3;
                case WRITE:
                case IF_ZERO:
                case IF_LESS:
                case IF_OVERFLOW:
                case CARD:
                    return 1;
                case PUNCH:
                    return 4;
                case LOOK:
                case STOP:
                    return 0;
                default:
                    return -1;
            }
        }

        static boolean exists(int operation) {
            return beats(operation) >= 0;
        }

        /** Whether D is an address that takes its wait and a beat of its own. */
        static boolean usesWord(int operation) {
            switch (operation) {
                case ADD:
                case SUBTRACT:
                case TAKE:
                case WRITE:
                case MULTIPLY:
                case DIVIDE:
                case CARD:
                case PUNCH:
                    return true;
                default:
                    return false;
            }
        }

        /** Whether it uses D and does not write there. */
        static boolean readsWord(int operation) {
            return usesWord(operation) && operation != WRITE && operation != CARD;
        }

        static boolean shifts(int operation) {
            return operation == LEFT || operation == RIGHT || operation == ROUND;
        }

        static boolean branches(int operation) {
            return operation == IF_ZERO || operation == IF_LESS || operation == IF_OVERFLOW;
        }

        static boolean isShift(int reference) {
            return reference >= 1 && reference <= 9;
        }

        static int codeOf(long instruction) {
            return (int) (instruction / OPERATION_UNIT);
        }

        static int referenceOf(long instruction) {
            return (int) (instruction / REFERENCE_UNIT % REFERENCE_UNIT);
        }

        static int followerOf(long instruction) {
            return (int) (instruction % REFERENCE_UNIT);
        }

        static boolean isLawful(long instruction) {
            if (instruction < 0) {
                return false;
            }
            int code = codeOf(instruction);
            if (!exists(code) || !Drum.holds(followerOf(instruction))) {
                return false;
            }
            int reference = referenceOf(instruction);
            if (shifts(code)) {
                return isShift(reference);
            }
            return code == STOP || Drum.holds(reference);
        }
    }

    /** The drum: words, their check digits, and the beats from which on the words are ready. */
    private static final class Drum {
        private final long[] words = new long[ADDRESSES];
        private final int[] checks = new int[ADDRESSES];
        private final int[] readyBeats = new int[ADDRESSES];

        static boolean holds(int address) {
            return address >= 0 && address < ADDRESSES;
        }

        /** The beats from one on until the place of an address is under the heads. */
        static int turn(int beat, int address) {
            return Math.floorMod(address - beat, BAND_PLACES);
        }

        long at(int address) {
            return holds(address) ? words[address] : 0;
        }

        void write(int address, long word) {
            if (holds(address)) {
                words[address] = word;
                checks[address] = Digits.checkOf(word);
            }
        }

        boolean isRight(int address) {
            return holds(address) && checks[address] == Digits.checkOf(words[address]);
        }

        /** Changes a digit behind the back of the check digit; returns the digit before. */
        int spoil(int address, int digit, int value) {
            if (!holds(address)) {
                return 0;
            }
            long word = words[address];
            long magnitude = Digits.magnitude(word);
            int before = Digits.digitOf(magnitude, digit);
            long change = Digits.movedLeft(1, DIGITS - digit) * (value - before);
            words[address] = Digits.signed(magnitude + change, word < 0);
            return before;
        }

        /** Looks at the address by itself, as calls go at most eight deep and this one is the last of eight. */
        int readyBeat(int address) {
            return address >= 0 && address < ADDRESSES ? readyBeats[address] : 0;
        }

        void delay(int address, int beat) {
            if (holds(address)) {
                readyBeats[address] = beat;
            }
        }

        void makeAllReady() {
            Arrays.fill(readyBeats, 0);
        }

        void wipe() {
            Arrays.fill(words, 0L);
            Arrays.fill(checks, 0);
            makeAllReady();
        }

        long total() {
            long sum = 0;
            for (int address = 0; address < ADDRESSES; address++) {
                sum = 31 * sum + words[address];
            }
            return sum;
        }
    }

    /** The card reader: the cards that are left, in a ring, and the panel. */
    private static final class Reader {
        private final long[] ring = new long[MOST_CARDS];
        private final int[] columns = new int[DIGITS];
        private int first;
        private int count;

        Reader() {
            for (int i = 0; i < DIGITS; i++) {
                columns[i] = i + 1;
            }
        }

        private int columnOf(int digit) {
            return digit >= 1 && digit <= DIGITS ? columns[digit - 1] : 0;
        }

        int connect(int digit, int column) {
            int before = columnOf(digit);
            if (digit >= 1 && digit <= DIGITS) {
                columns[digit - 1] = column;
            }
            return before;
        }

        int left() {
            return count;
        }

        void lay(long card) {
            int slot = (first + count) % MOST_CARDS;
            if (count < MOST_CARDS && slot >= 0) {
                ring[slot] = card;
                count++;
            }
        }

        /** Takes the first card; returns the word that the panel makes of it. */
        long takeWord() {
            if (count <= 0 || first < 0 || first >= MOST_CARDS) {
                return 0;
            }
            long card = ring[first];
            first = (first + 1) % MOST_CARDS;
            count--;
            long word = 0;
            for (int digit = 1; digit <= DIGITS; digit++) {
                int column = columnOf(digit);
                word = word * 10 + (column == 0 ? 0 : Digits.digitOf(card, column));
            }
            return word;
        }
    }

    /** The words that were punched. */
    private static final class Punch {
        private long[] words = new long[FIRST_PUNCH_ROOM];
        private int count;
        private long sum;

        int size() {
            return count;
        }

        long sum() {
            return sum;
        }

        long at(int index) {
            return index >= 0 && index < count && index < words.length ? words[index] : 0;
        }

        void append(long word) {
            if (count >= MOST_PUNCHED) {
                return;
            }
            if (count >= words.length) {
                words = Arrays.copyOf(words, Math.min(MOST_PUNCHED, 2 * count));
            }
            if (count >= 0 && count < words.length) {
                words[count] = word;
                count++;
                sum += word;
            }
        }

        void wipe() {
            count = 0;
            sum = 0;
        }

        boolean agreesWith(Punch other) {
            if (other.size() != count) {
                return false;
            }
            for (int i = 0; i < count; i++) {
                if (other.at(i) != at(i)) {
                    return false;
                }
            }
            return true;
        }
    }

    /** The accumulator, here called lower, the extension, called upper, and what is reckoned with them. */
    private static final class Registers {
        private long lower;
        private long upper;
        private boolean overflow;

        long lower() {
            return lower;
        }

        long upper() {
            return upper;
        }

        boolean hasOverflow() {
            return overflow;
        }

        void wipe() {
            lower = 0;
            upper = 0;
            overflow = false;
        }

        void setLower(long word) {
            lower = word;
        }

        void setUpper(long word) {
            upper = word;
        }

        /** Returns whether an overflow was noted, and notes it no more. */
        boolean takeOverflow() {
            boolean was = overflow;
            overflow = false;
            return was;
        }

        void add(long word) {
            long sum = lower + word;
            if (!Digits.isWord(sum)) {
                overflow = true;
            }
            lower = sum % WORD_END;
        }

        /** The factors are split into halves of five digits, as a product of twenty digits fits no long. */
        void multiply(long word) {
            boolean isNegative = (lower < 0) != (word < 0);
            long one = Digits.magnitude(lower);
            long other = Digits.magnitude(word);
            long oneHead = one / HALF_WORD;
            long oneTail = one % HALF_WORD;
            long otherHead = other / HALF_WORD;
            long otherTail = other % HALF_WORD;
            long middle = oneHead * otherTail + oneTail * otherHead;
            long tail = oneTail * otherTail + middle % HALF_WORD * HALF_WORD;
            long head = oneHead * otherHead + middle / HALF_WORD + tail / WORD_END;
            lower = Digits.signed(tail % WORD_END, isNegative);
            upper = Digits.signed(head, isNegative);
        }

        /** Divides digit by digit, as a number of twenty digits fits no long. */
        void divide(long word) {
            long divisor = Digits.magnitude(word);
            if (divisor == 0) {
                return;
            }
            boolean isNegative = upper != 0 ? upper < 0 : lower < 0;
            long head = Digits.magnitude(upper);
            long tail = Digits.magnitude(lower);
            long rest = head % divisor;
            long quotient = 0;
            for (int i = 0; i < DIGITS; i++) {
                rest = rest * 10 + tail / FIRST_DIGIT_UNIT;
                tail = tail % FIRST_DIGIT_UNIT * 10;
                quotient = quotient * 10 + rest / divisor;
                rest = rest % divisor;
            }
            if (head / divisor != 0) {
                overflow = true;
            }
            lower = Digits.signed(quotient, isNegative != (word < 0));
            upper = Digits.signed(rest, isNegative);
        }

        void shiftLeft(int count) {
            lower = Digits.signed(Digits.movedLeft(Digits.magnitude(lower), count), lower < 0);
        }

        void shiftRight(int count) {
            lower = Digits.signed(Digits.movedRight(Digits.magnitude(lower), count), lower < 0);
        }

        void shiftRounded(int count) {
            long before = Digits.movedRight(Digits.magnitude(lower), count - 1);
            long rounded = before / 10 + (before % 10 >= 5 ? 1 : 0);
            lower = Digits.signed(rounded, lower < 0);
        }

        boolean agreesWith(Registers other) {
            return other.lower() == lower && other.upper() == upper;
        }
    }

    /** The machine: what it has, where it stands, and the beats that it took. */
    private static final class Machine {
        private final Drum memory = new Drum();
        private final Reader reader = new Reader();
        private final Punch punch = new Punch();
        private final Registers registers = new Registers();
        private int nextAddress;
        private int time;
        private int waited;
        private int doneCount;

        Drum memory() {
            return memory;
        }

        Reader reader() {
            return reader;
        }

        Punch punch() {
            return punch;
        }

        Registers registers() {
            return registers;
        }

        int nextAddress() {
            return nextAddress;
        }

        int time() {
            return time;
        }

        int waited() {
            return waited;
        }

        int doneCount() {
            return doneCount;
        }

        void wipe() {
            memory.wipe();
            punch.wipe();
        }

        void begin(int address) {
            memory.makeAllReady();
            registers.wipe();
            nextAddress = address;
            time = 0;
            waited = 0;
            doneCount = 0;
        }

        char go(int steps) {
            char answer = GOES_ON;
            for (int i = 0; i < steps && answer == GOES_ON; i++) {
                answer = step();
            }
            return answer;
        }

        private char step() {
            reach(nextAddress);
            time++;
            if (!memory.isRight(nextAddress)) {
                return FAULT_STOP;
            }
            long instruction = memory.at(nextAddress);
            if (!Operations.isLawful(instruction)) {
                return UNLAWFUL_STOP;
            }
            int operation = Operations.codeOf(instruction);
            if (operation == Operations.STOP) {
                return END_STOP;
            }
            if (operation == Operations.CARD && reader.left() == 0) {
                return CARD_STOP;
            }
            int reference = Operations.referenceOf(instruction);
            char stop = operation == Operations.LOOK ? look(reference) : use(operation, reference);
            if (stop == GOES_ON) {
                carryOut(operation, reference);
                nextAddress = goesToReference(operation) ? reference : Operations.followerOf(instruction);
                doneCount++;
            }
            return stop;
        }

        /** Waits until an address is ready, then until its place is under the heads. */
        private void reach(int address) {
            awaitReady(address);
            int wait = Drum.turn(time, address);
            time += wait;
            waited += wait;
        }

        private void awaitReady(int address) {
            int wait = memory.readyBeat(address) - time;
            if (wait > 0) {
                time += wait;
                waited += wait;
            }
        }

        /** Goes to D if the operation uses it; returns '-', or the stop that the word there brings about. */
        private char use(int operation, int reference) {
            if (!Operations.usesWord(operation)) {
                return GOES_ON;
            }
            reach(reference);
            time++;
            if (Operations.readsWord(operation) && !memory.isRight(reference)) {
                return FAULT_STOP;
            }
            return operation == Operations.DIVIDE && memory.at(reference) == 0 ? DIVISION_STOP : GOES_ON;
        }

        /** What an operation does behind its use of D; 60 has done all by then. */
        private void carryOut(int operation, int reference) {
            time += Operations.beats(operation);
            long word = memory.at(reference);
            switch (operation) {
                case Operations.ADD:
                    registers.add(word);
                    break;
                case Operations.SUBTRACT:
                    registers.add(-word);
                    break;
                case Operations.TAKE:
                    registers.setLower(word);
                    break;
                case Operations.WRITE:
                    memory.write(reference, registers.lower());
                    break;
                case Operations.MULTIPLY:
                    registers.multiply(word);
                    break;
                case Operations.DIVIDE:
                    registers.divide(word);
                    break;
                case Operations.LEFT:
                    registers.shiftLeft(reference);
                    break;
                case Operations.RIGHT:
                    registers.shiftRight(reference);
                    break;
                case Operations.ROUND:
                    registers.shiftRounded(reference);
                    break;
                case Operations.CARD:
                    memory.write(reference, reader.takeWord());
                    memory.delay(reference, time + READY_BEHIND);
                    break;
                case Operations.PUNCH:
                    punch.append(word);
                    break;
                default:
                    break;
            }
        }

        private boolean goesToReference(int operation) {
            switch (operation) {
                case Operations.IF_ZERO:
                    return registers.lower() == 0;
                case Operations.IF_LESS:
                    return registers.lower() < 0;
                case Operations.IF_OVERFLOW:
                    return registers.takeOverflow();
                default:
                    return false;
            }
        }

        /** Looks along a band for a word not less than the accumulator. */
        private char look(int from) {
            reach(from);
            int end = from - from % BAND_PLACES + BAND_PLACES;
            for (int address = from; address < end; address++) {
                awaitReady(address);
                time++;
                if (!memory.isRight(address)) {
                    return FAULT_STOP;
                }
                if (memory.at(address) >= registers.lower()) {
                    registers.setUpper(address);
                    return GOES_ON;
                }
            }
            registers.setUpper(NOWHERE);
            return GOES_ON;
        }

        boolean agreesWith(Machine other) {
            return other.doneCount() == doneCount && registers.agreesWith(other.registers())
                    && punch.agreesWith(other.punch());
        }
    }

    /** The source: lines and data, not placed yet. */
    private static final class Source {
        private final int[] operations = new int[MOST_LINES];
        private final int[] references = new int[MOST_LINES];
        private final int[] followers = new int[MOST_LINES];
        private final long[] data = new long[MOST_DATA];
        private int lineCount;
        private int dataCount;

        static boolean isLawful(int operation, int reference, int follower) {
            if (!Operations.exists(operation) || operation == Operations.LOOK) {
                return false;
            }
            if (follower < 0 || follower >= MOST_LINES) {
                return false;
            }
            if (Operations.shifts(operation)) {
                return Operations.isShift(reference);
            }
            int end = Operations.branches(operation) ? MOST_LINES : MOST_DATA;
            return operation == Operations.STOP || (reference >= 0 && reference < end);
        }

        int lineCount() {
            return lineCount;
        }

        int dataCount() {
            return dataCount;
        }

        int appendLine(int operation, int reference, int follower) {
            int line = lineCount;
            if (line >= 0 && line < MOST_LINES) {
                operations[line] = operation;
                references[line] = reference;
                followers[line] = follower;
                lineCount++;
            }
            return line;
        }

        int appendDatum(long word) {
            int datum = dataCount;
            if (datum >= 0 && datum < MOST_DATA) {
                data[datum] = word;
                dataCount++;
            }
            return datum;
        }

        void empty() {
            lineCount = 0;
            dataCount = 0;
        }

        private boolean hasLine(int line) {
            return line >= 0 && line < lineCount && line < MOST_LINES;
        }

        private boolean hasDatum(int datum) {
            return datum >= 0 && datum < dataCount && datum < MOST_DATA;
        }

        int operationOf(int line) {
            return hasLine(line) ? operations[line] : Operations.STOP;
        }

        int referenceOf(int line) {
            return hasLine(line) ? references[line] : 0;
        }

        int followerOf(int line) {
            return hasLine(line) ? followers[line] : 0;
        }

        long datumAt(int datum) {
            return hasDatum(datum) ? data[datum] : 0;
        }

        boolean usesDatum(int line) {
            return Operations.usesWord(operationOf(line));
        }

        /** Whether every line and datum that a line refers to is there. */
        boolean isWhole() {
            for (int line = 0; line < lineCount; line++) {
                if (!hasLine(followerOf(line))) {
                    return false;
                }
                if (usesDatum(line) && !hasDatum(referenceOf(line))) {
                    return false;
                }
                if (Operations.branches(operationOf(line)) && !hasLine(referenceOf(line))) {
                    return false;
                }
            }
            return true;
        }
    }

    /** The addresses of the lines and the data of a source; those that are taken are the bits of a number. */
    private static final class Layout {
        private final int[] lineAddresses = new int[MOST_LINES];
        private final int[] datumAddresses = new int[MOST_DATA];
        private long taken;

        int lineAddress(int line) {
            return line >= 0 && line < MOST_LINES ? lineAddresses[line] : NOWHERE;
        }

        int datumAddress(int datum) {
            return datum >= 0 && datum < MOST_DATA ? datumAddresses[datum] : NOWHERE;
        }

        /** Lays a source out, by the best places if they are told and foretell no more beats. */
        void choose(Source source, boolean isPlaced) {
            layPlainly(source);
            if (!isPlaced) {
                return;
            }
            int plainBeats = beats(source);
            layBest(source);
            if (beats(source) > plainBeats) {
                layPlainly(source);
            }
        }

        /** The foretold beats. */
        int beats(Source source) {
            int beat = 0;
            int line = 0;
            int doneLines = 0;
            for (int i = 0; i < source.lineCount(); i++) {
                beat = beatBehind(source, line, beat);
                doneLines |= 1 << line;
                if (source.operationOf(line) == Operations.STOP) {
                    return beat;
                }
                line = source.followerOf(line);
                if ((doneLines >> line & 1) != 0) {
                    return beat;
                }
            }
            return beat;
        }

        void writeTo(Drum drum, Source source) {
            for (int line = 0; line < source.lineCount(); line++) {
                drum.write(lineAddress(line), instructionOf(source, line));
            }
            for (int datum = 0; datum < source.dataCount(); datum++) {
                drum.write(datumAddress(datum), source.datumAt(datum));
            }
        }

        private long instructionOf(Source source, int line) {
            int operation = source.operationOf(line);
            int reference = source.referenceOf(line);
            if (source.usesDatum(line)) {
                reference = datumAddress(reference);
            } else if (Operations.branches(operation)) {
                reference = lineAddress(reference);
            } else if (operation == Operations.STOP) {
                reference = 0;
            }
            return operation * OPERATION_UNIT + reference * REFERENCE_UNIT + lineAddress(source.followerOf(line));
        }

        private void layPlainly(Source source) {
            empty();
            for (int line = 0; line < source.lineCount(); line++) {
                layLine(line, line);
            }
            for (int datum = 0; datum < source.dataCount(); datum++) {
                layDatum(datum, source.lineCount() + datum);
            }
        }

        private void layBest(Source source) {
            empty();
            for (int line = 0; line < source.lineCount(); line++) {
                // The lowest free address is 0 for the line 0.
                if (lineAddress(line) == NOWHERE) {
                    layLine(line, lowestFree());
                }
                // Each address is under the heads at the beat of its own number.
                int beat = lineAddress(line);
                int datum = source.referenceOf(line);
                if (source.usesDatum(line) && datumAddress(datum) == NOWHERE) {
                    layDatum(datum, soonestFree(beat + 1));
                }
                int follower = source.followerOf(line);
                if (lineAddress(follower) == NOWHERE) {
                    layLine(follower, soonestFree(beatBehind(source, line, beat)));
                }
            }
            for (int datum = 0; datum < source.dataCount(); datum++) {
                if (datumAddress(datum) == NOWHERE) {
                    layDatum(datum, lowestFree());
                }
            }
        }

        /** The beat behind a line that is waited for from a beat on, with all that it takes. */
        private int beatBehind(Source source, int line, int beat) {
            int behind = beat + Drum.turn(beat, lineAddress(line)) + 1;
            if (source.usesDatum(line)) {
                behind += Drum.turn(behind, datumAddress(source.referenceOf(line))) + 1;
            }
            return behind + Operations.beats(source.operationOf(line));
        }

        private int lowestFree() {
            for (int address = 0; address < ADDRESSES; address++) {
                if (isFree(address)) {
                    return address;
                }
            }
            return NOWHERE;
        }

        /** The free address with the least wait from a beat on, of several the lowest one. */
        private int soonestFree(int beat) {
            int best = NOWHERE;
            int leastWait = BAND_PLACES;
            for (int address = 0; address < ADDRESSES; address++) {
                int wait = Drum.turn(beat, address);
                if (isFree(address) && wait < leastWait) {
                    best = address;
                    leastWait = wait;
                }
            }
            return best;
        }

        private boolean isFree(int address) {
            return (taken >> address & 1) == 0;
        }

        private void empty() {
            Arrays.fill(lineAddresses, NOWHERE);
            Arrays.fill(datumAddresses, NOWHERE);
            taken = 0;
        }

        private void layLine(int line, int address) {
            if (line >= 0 && line < MOST_LINES) {
                lineAddresses[line] = address;
                take(address);
            }
        }

        private void layDatum(int datum, int address) {
            if (datum >= 0 && datum < MOST_DATA) {
                datumAddresses[datum] = address;
                take(address);
            }
        }

        private void take(int address) {
            if (Drum.holds(address)) {
                taken |= 1L << address;
            }
        }
    }
}
