import java.math.BigInteger;
import java.util.ArrayList;
import java.util.HashSet;
import java.util.List;
import java.util.NoSuchElementException;
import java.util.Set;

/** The document once more, written as slowly and as literally as it goes, to compare the class with. */
final class Model {
    private static final BigInteger END = BigInteger.TEN.pow(10);

    private final String[] digits = new String[40];
    private final boolean[] minus = new boolean[40];
    private final int[] checks = new int[40];
    private final int[] ready = new int[40];
    private final int[] columns = {1, 2, 3, 4, 5, 6, 7, 8, 9, 10};
    private final List<Long> deck = new ArrayList<>();
    private final List<Long> punches = new ArrayList<>();
    private final List<int[]> lines = new ArrayList<>();
    private final List<Long> data = new ArrayList<>();
    private int[] linePlaces;
    private int[] datumPlaces;
    private long accumulator;
    private long extension;
    private int next;
    private boolean overflow;
    private int beat;
    private int waits;
    private int done;

    Model() {
        for (int address = 0; address < 40; address++) {
            set(address, 0);
        }
    }

    private static String tenDigits(long word) {
        return String.format("%010d", Math.abs(word));
    }

    private static int sum(String digits) {
        int sum = 0;
        for (char digit : digits.toCharArray()) {
            sum += digit - '0';
        }
        return sum % 10;
    }

    private long get(int address) {
        long magnitude = Long.parseLong(digits[address]);
        return minus[address] ? -magnitude : magnitude;
    }

    private void set(int address, long word) {
        digits[address] = tenDigits(word);
        minus[address] = word < 0;
        checks[address] = sum(digits[address]);
    }

    private boolean right(int address) {
        return sum(digits[address]) == checks[address];
    }

    private static void address(int address) {
        if (address < 0 || address > 39) {
            throw new IndexOutOfBoundsException();
        }
    }

    private static void argument(boolean isRight) {
        if (!isRight) {
            throw new IllegalArgumentException();
        }
    }

    private static void state(boolean isRight) {
        if (!isRight) {
            throw new IllegalStateException();
        }
    }

    private static boolean isWord(long word) {
        return BigInteger.valueOf(word).abs().compareTo(END) < 0;
    }

    long put(int address, long word) {
        address(address);
        argument(isWord(word));
        long before = get(address);
        set(address, word);
        return before;
    }

    long word(int address) {
        address(address);
        return get(address);
    }

    int fault(int address, int digit, int value) {
        address(address);
        argument(digit >= 1 && digit <= 10 && value >= 0 && value <= 9);
        StringBuilder text = new StringBuilder(digits[address]);
        int before = text.charAt(digit - 1) - '0';
        text.setCharAt(digit - 1, (char) ('0' + value));
        digits[address] = text.toString();
        if (digits[address].equals("0000000000")) {
            minus[address] = false;
        }
        return before;
    }

    boolean isGood(int address) {
        address(address);
        return right(address);
    }

    int wire(int digit, int column) {
        argument(digit >= 1 && digit <= 10 && column >= 0 && column <= 10);
        int before = columns[digit - 1];
        columns[digit - 1] = column;
        return before;
    }

    int addCard(long card) {
        argument(card >= 0 && isWord(card));
        state(deck.size() < 20);
        deck.add(card);
        return deck.size();
    }

    int cards() {
        return deck.size();
    }

    int punched() {
        return punches.size();
    }

    long punchedAt(int index) {
        if (index < 0 || index >= punches.size()) {
            throw new IndexOutOfBoundsException();
        }
        return punches.get(index);
    }

    int start(int address) {
        address(address);
        int before = next;
        next = address;
        accumulator = 0;
        extension = 0;
        overflow = false;
        beat = 0;
        waits = 0;
        done = 0;
        java.util.Arrays.fill(ready, 0);
        return before;
    }

    char run(int steps) {
        argument(steps >= 1 && steps <= 100);
        for (int i = 0; i < steps; i++) {
            char stop = instruction();
            if (stop != '-') {
                return stop;
            }
        }
        return '-';
    }

    private void rotateTo(int address) {
        while (beat < ready[address] || beat % 10 != address % 10) {
            beat++;
            waits++;
        }
    }

    private static boolean uses(int operation) {
        return operation >= 10 && operation <= 31 || operation == 70 || operation == 71;
    }

    private static int beats(int operation) {
        return switch (operation) {
            case 10, 11, 12 -> 2;
            case 20, 50, 51, 52, 70 -> 1;
            case 30 -> 12;
            case 31 -> 16;
            case 40, 41, 42 -> 3;
            case 71 -> 4;
            case 60, 99 -> 0;
            default -> -1;
        };
    }

    private char instruction() {
        rotateTo(next);
        beat++;
        if (!right(next)) {
            return 'f';
        }
        String word = digits[next];
        int operation = Integer.parseInt(word.substring(0, 2));
        int d = Integer.parseInt(word.substring(2, 6));
        int n = Integer.parseInt(word.substring(6));
        if (minus[next] || beats(operation) < 0 || n > 39) {
            return 'i';
        }
        if (operation / 10 == 4 ? d < 1 || d > 9 : operation != 99 && d > 39) {
            return 'i';
        }
        if (operation == 99) {
            return 's';
        }
        if (operation == 70 && deck.isEmpty()) {
            return 'c';
        }
        if (uses(operation)) {
            rotateTo(d);
            beat++;
            if (operation != 20 && operation != 70 && !right(d)) {
                return 'f';
            }
            if (operation == 31 && get(d) == 0) {
                return 'd';
            }
        }
        int went = operation == 60 ? look(d) : act(operation, d, n);
        if (went < 0) {
            return 'f';
        }
        beat += beats(operation);
        if (operation == 70) {
            ready[d] = beat + 6;
        }
        next = operation == 60 ? n : went;
        done++;
        return '-';
    }

    private int look(int d) {
        rotateTo(d);
        int found = -1;
        for (int address = d; address / 10 == d / 10 && found < 0; address++) {
            while (beat < ready[address]) {
                beat++;
                waits++;
            }
            beat++;
            if (!right(address)) {
                return -1;
            }
            if (get(address) >= accumulator) {
                found = address;
            }
        }
        extension = found;
        return 0;
    }

    private int act(int operation, int d, int n) {
        BigInteger old = BigInteger.valueOf(accumulator);
        BigInteger word = BigInteger.valueOf(d < 40 ? get(d) : 0);
        boolean isOver = overflow;
        switch (operation) {
            case 10 -> accumulator = cut(old.add(word));
            case 11 -> accumulator = cut(old.subtract(word));
            case 12 -> accumulator = word.longValue();
            case 20 -> set(d, accumulator);
            case 30 -> {
                BigInteger[] parts = old.multiply(word).divideAndRemainder(END);
                accumulator = parts[1].longValue();
                extension = parts[0].longValue();
            }
            case 31 -> {
                BigInteger whole = BigInteger.valueOf(extension).abs().multiply(END).add(old.abs());
                BigInteger sign = BigInteger.valueOf(extension != 0 ? extension : accumulator);
                BigInteger[] parts = whole.multiply(BigInteger.valueOf(sign.signum())).divideAndRemainder(word);
                accumulator = cut(parts[0]);
                extension = parts[1].longValue();
            }
            case 40 -> accumulator = old.multiply(BigInteger.TEN.pow(d)).remainder(END).longValue();
            case 41 -> accumulator = old.divide(BigInteger.TEN.pow(d)).longValue();
            case 42 -> {
                boolean isUp = tenDigits(accumulator).charAt(10 - d) >= '5';
                long magnitude = old.abs().divide(BigInteger.TEN.pow(d)).longValue() + (isUp ? 1 : 0);
                accumulator = accumulator < 0 ? -magnitude : magnitude;
            }
            case 52 -> overflow = false;
            case 70 -> {
                String card = tenDigits(deck.remove(0));
                StringBuilder text = new StringBuilder();
                for (int column : columns) {
                    text.append(column == 0 ? '0' : card.charAt(column - 1));
                }
                set(d, Long.parseLong(text.toString()));
            }
            case 71 -> punches.add(word.longValue());
            default -> { }
        }
        boolean goes = operation == 50 && accumulator == 0 || operation == 51 && accumulator < 0
                || operation == 52 && isOver;
        return goes ? d : n;
    }

    private long cut(BigInteger number) {
        overflow |= number.abs().compareTo(END) >= 0;
        return number.remainder(END).longValue();
    }

    long accumulator() {
        return accumulator;
    }

    long extension() {
        return extension;
    }

    int next() {
        return next;
    }

    boolean isOverflow() {
        return overflow;
    }

    int beat() {
        return beat;
    }

    int waits() {
        return waits;
    }

    int done() {
        return done;
    }

    int addDatum(long word) {
        argument(isWord(word));
        state(data.size() < 8);
        data.add(word);
        linePlaces = null;
        return data.size() - 1;
    }

    int addLine(int operation, int reference, int follower) {
        argument(operation != 60 && beats(operation) >= 0 && follower >= 0 && follower <= 15);
        switch (operation / 10) {
            case 4 -> argument(reference >= 1 && reference <= 9);
            case 5 -> argument(reference >= 0 && reference <= 15);
            case 9 -> { }
            default -> argument(reference >= 0 && reference <= 7);
        }
        state(lines.size() < 16);
        lines.add(new int[] {operation, reference, follower});
        linePlaces = null;
        return lines.size() - 1;
    }

    int clearSource() {
        int before = lines.size();
        lines.clear();
        data.clear();
        linePlaces = null;
        return before;
    }

    private boolean isWhole() {
        for (int[] line : lines) {
            boolean isThere = line[2] < lines.size();
            isThere &= !uses(line[0]) || line[1] < data.size();
            isThere &= line[0] / 10 != 5 || line[1] < lines.size();
            if (!isThere) {
                return false;
            }
        }
        return true;
    }

    private void source() {
        state(!lines.isEmpty());
        if (!isWhole()) {
            throw new NoSuchElementException();
        }
    }

    /** The places of the lines, then those of the data. */
    private int[][] plainPlaces() {
        int[][] places = {new int[lines.size()], new int[data.size()]};
        for (int i = 0; i < lines.size() + data.size(); i++) {
            places[i < lines.size() ? 0 : 1][i < lines.size() ? i : i - lines.size()] = i;
        }
        return places;
    }

    private int[][] bestPlaces() {
        int[][] places = plainPlaces();
        java.util.Arrays.fill(places[0], -1);
        java.util.Arrays.fill(places[1], -1);
        Set<Integer> taken = new HashSet<>();
        places[0][0] = free(taken, -1);
        for (int i = 0; i < lines.size(); i++) {
            int[] line = lines.get(i);
            if (places[0][i] < 0) {
                places[0][i] = free(taken, -1);
            }
            int time = places[0][i] % 10 + 1;
            if (uses(line[0])) {
                if (places[1][line[1]] < 0) {
                    places[1][line[1]] = free(taken, time);
                }
                while (time % 10 != places[1][line[1]] % 10) {
                    time++;
                }
                time++;
            }
            time += beats(line[0]);
            if (places[0][line[2]] < 0) {
                places[0][line[2]] = free(taken, time);
            }
        }
        for (int i = 0; i < data.size(); i++) {
            if (places[1][i] < 0) {
                places[1][i] = free(taken, -1);
            }
        }
        return places;
    }

    /** The first free address of all, or the first one of the first place that comes under the heads from a time on. */
    private static int free(Set<Integer> taken, int time) {
        for (int wait = 0; wait < 10; wait++) {
            for (int address = 0; address < 40; address++) {
                if ((time < 0 || address % 10 == (time + wait) % 10) && taken.add(address)) {
                    return address;
                }
            }
        }
        throw new AssertionError("no free address");
    }

    private int told(int[][] places) {
        Set<Integer> seen = new HashSet<>();
        int time = 0;
        for (int at = 0; seen.add(at); at = lines.get(at)[2]) {
            int[] line = lines.get(at);
            while (time % 10 != places[0][at] % 10) {
                time++;
            }
            time++;
            if (uses(line[0])) {
                while (time % 10 != places[1][line[1]] % 10) {
                    time++;
                }
                time++;
            }
            time += beats(line[0]);
            if (line[0] == 99) {
                break;
            }
        }
        return time;
    }

    private int[][] places(boolean isPlaced) {
        int[][] plain = plainPlaces();
        int[][] best = bestPlaces();
        return isPlaced && told(best) <= told(plain) ? best : plain;
    }

    int assemble(boolean isPlaced) {
        source();
        int[][] places = places(isPlaced);
        linePlaces = places[0];
        datumPlaces = places[1];
        for (int i = 0; i < lines.size(); i++) {
            int[] line = lines.get(i);
            int d = uses(line[0]) ? datumPlaces[line[1]] : line[1];
            d = line[0] / 10 == 5 ? linePlaces[line[1]] : line[0] == 99 ? 0 : d;
            set(linePlaces[i], Long.parseLong(String.format("%02d%04d%04d", line[0], d, linePlaces[line[2]])));
        }
        for (int i = 0; i < data.size(); i++) {
            set(datumPlaces[i], data.get(i));
        }
        return lines.size() + data.size();
    }

    int placeOf(int line) {
        if (line < 0 || line >= lines.size()) {
            throw new IndexOutOfBoundsException();
        }
        state(linePlaces != null);
        return linePlaces[line];
    }

    int placeOfDatum(int datum) {
        if (datum < 0 || datum >= data.size()) {
            throw new IndexOutOfBoundsException();
        }
        state(linePlaces != null);
        return datumPlaces[datum];
    }

    int foretold(boolean isPlaced) {
        source();
        return told(places(isPlaced));
    }

    long checksum() {
        BigInteger sum = BigInteger.ZERO;
        for (int address = 0; address < 40; address++) {
            sum = sum.multiply(BigInteger.valueOf(31)).add(BigInteger.valueOf(get(address)));
        }
        return sum.longValue();
    }

    float waitShare() {
        if (beat == 0) {
            throw new ArithmeticException();
        }
        return (float) waits / (float) beat;
    }

    double meanPunched() {
        if (punches.isEmpty()) {
            throw new ArithmeticException();
        }
        long sum = 0;
        for (long word : punches) {
            sum += word;
        }
        return (double) sum / (double) punches.size();
    }

    private String outcome(boolean isPlaced) {
        Model trial = new Model();
        trial.lines.addAll(lines);
        trial.data.addAll(data);
        trial.assemble(isPlaced);
        trial.run(60);
        return trial.accumulator + " " + trial.extension + " " + trial.punches + " " + trial.done;
    }

    boolean isSound() {
        if (lines.isEmpty() || !isWhole()) {
            return true;
        }
        return foretold(true) <= foretold(false) && outcome(true).equals(outcome(false));
    }
}
