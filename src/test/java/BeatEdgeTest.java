/** The edges of beats, places under the heads, waits and beginnings, sentence by sentence: 11, 12, 15 to 19, 28. */
public final class BeatEdgeTest {
    public static void main(String[] args) {
        nothingAtFirst();
        placesUnderTheHeads();
        firstBeatFromThisOneOn();
        placesOfReferences();
        turnsRound();
        manyTurns();
        beatsOfOperations();
        shiftsAndBranchesDoNotUseD();
        cardsAreWaitedFor();
        cardsThatAreInstructions();
        otherAddressesAreReady();
        lookingWaitsForD();
        lookingTakesABeatAWord();
        lookingOverACard();
        beginningsAtEachAddress();
        beginningsBehindStops();
        noAddressToBeginAt();
        beginningsMakeAllReady();
        leastAndGreatestSteps();
        noSteps();
        stepsUpToAStop();
        noShareOfNothing();
        shares();
        Check.close();
    }

    private static void stands(String what, Drumline x, int next, int beat, int waits, int done) {
        Check.number("15 " + what, x.next(), next);
        Check.number("17 " + what, x.beat(), beat);
        Check.number("18 " + what, x.waits(), waits);
        Check.number("19 " + what, x.done(), done);
    }

    /** next is "0 at first"; no beats, no waits and no instructions yet. */
    private static void nothingAtFirst() {
        stands("at first", new Drumline(), 0, 0, 0, 0);
    }

    /** "At the beat t, the heads are over the places t modulo 10 of all bands": from the beat 0 on. */
    private static void placesUnderTheHeads() {
        for (int address = 0; address < 40; address++) {
            Drumline x = new Drumline();
            x.put(address, Code.of(51, 0, 7));
            x.start(address);
            x.run(1);
            stands("at " + address, x, 7, address % 10 + 2, address % 10, 1);
        }
    }

    /** "The machine waits for the first beat from this one on": none if it is this one, 9 if it has just gone by. */
    private static void firstBeatFromThisOneOn() {
        for (int address = 1; address < 40; address++) {
            Drumline x = Code.with(Code.of(51, 0, address));
            x.put(address, Code.of(51, 0, 0));
            x.run(2);
            // The instruction at 0 takes the beats 0 and 1.
            int wait = (address + 8) % 10;
            stands("then at " + address, x, 0, 4 + wait, wait, 2);
        }
    }

    /** The same for D, from the beat behind the reading on. */
    private static void placesOfReferences() {
        for (int d = 1; d < 40; d++) {
            Drumline x = Code.with(Code.of(12, d, 3));
            x.put(d, 7);
            x.run(1);
            int wait = (d + 9) % 10;
            stands("D " + d, x, 3, 4 + wait, wait, 1);
        }
        Drumline x = Code.with(Code.of(12, 0, 3));
        x.run(1);
        stands("D where it stands", x, 3, 13, 9, 1);
    }

    /** The place 9 is followed by the place 0. */
    private static void turnsRound() {
        for (int address = 0; address < 40; address++) {
            Drumline x = new Drumline();
            x.put(8, Code.of(51, 0, address));
            x.put(address, Code.of(51, 0, address == 8 ? 8 : 5));
            x.start(8);
            x.run(2);
            // The instruction at 8 takes the beats 8 and 9; the place 0 is under the heads at 10.
            stands("behind 9 at " + address, x, address == 8 ? 8 : 5, 12 + address % 10, 8 + address % 10, 2);
        }
        Drumline x = new Drumline();
        x.put(9, Code.of(12, 30, 3));
        x.put(39, Code.of(12, 19, 0));
        x.start(9);
        x.run(1);
        stands("D behind 9", x, 3, 13, 9, 1);
        x.start(39);
        x.run(1);
        stands("D just gone by", x, 0, 9 + 1 + 9 + 1 + 2, 18, 1);
    }

    /** Beats and waits go on through all the runs of an object; only a beginning ends them. */
    private static void manyTurns() {
        Drumline x = Code.with(Code.of(51, 0, 0));
        for (int i = 0; i < 500; i++) {
            x.run(100);
        }
        stands("many", x, 0, 10 * 49999 + 2, 8 * 49999, 50000);
        Check.same("28 many", x.waitShare(), 399992.0f / 499992.0f);
        x.start(0);
        x.run(1);
        stands("from 0 again", x, 0, 2, 0, 1);
        Drumline y = new Drumline();
        for (int address = 0; address < 10; address += 2) {
            y.put(address, Code.of(51, 0, (address + 2) % 10));
        }
        y.run(100);
        stands("no waits at all", y, 0, 200, 0, 100);
        Check.same("28 no waits at all", y.waitShare(), 0.0f);
    }

    /** "It is read at its address; then D is used .., which takes its wait and 1 beat; then come the beats". */
    private static void beatsOfOperations() {
        int[][] beats = {{10, 2}, {11, 2}, {12, 2}, {20, 1}, {30, 12}, {31, 16}, {70, 1}, {71, 4}};
        for (int[] pair : beats) {
            for (int wait = 0; wait < 10; wait++) {
                Drumline x = new Drumline();
                int d = (wait + 7) % 10 + 30;
                x.put(6, Code.of(pair[0], d, 2));
                x.put(d, 5);
                x.addCard(5);
                x.start(6);
                Check.number("12 " + pair[0], x.run(1), '-');
                stands(pair[0] + " at " + d, x, 2, 6 + 1 + wait + 1 + pair[1], 6 + wait, 1);
            }
        }
    }

    /** "D does not stand for an address" for 40 to 42, and isn't gone to for its word by 50 to 52. */
    private static void shiftsAndBranchesDoNotUseD() {
        for (int operation = 40; operation <= 42; operation++) {
            for (int d = 1; d <= 9; d++) {
                Drumline x = Code.with(Code.of(operation, d, 2));
                x.fault(d, 1, 1);
                Check.number("12 " + operation, x.run(1), '-');
                stands(operation + " by " + d, x, 2, 4, 0, 1);
            }
        }
        for (int operation = 50; operation <= 52; operation++) {
            Drumline x = Code.with(Code.of(operation, 35, 2));
            x.fault(35, 1, 1);
            Check.number("12 " + operation, x.run(1), '-');
            stands("" + operation, x, operation == 50 ? 35 : 2, 2, 0, 1);
        }
    }

    /** "An address that a card is being read into is not ready until some beat; who uses it before waits first." */
    private static void cardsAreWaitedFor() {
        for (int operation : new int[] {10, 12, 20, 71, 70}) {
            Drumline x = Code.with(Code.of(70, 1, 3));
            x.put(3, Code.of(operation, 1, 8));
            x.addCard(6);
            x.addCard(7);
            x.run(1);
            stands("a card", x, 3, 3, 0, 1);
            x.run(1);
            // Read at 3; the place 1 comes at 11, behind the beat at which it is ready.
            int beats = operation == 71 ? 4 : operation == 20 || operation == 70 ? 1 : 2;
            stands("a card that is used by " + operation, x, 8, 12 + beats, 7, 2);
        }
    }

    /** The same for the address of the instruction that comes next. */
    private static void cardsThatAreInstructions() {
        Drumline x = Code.with(Code.of(70, 3, 3));
        x.addCard(Code.of(51, 0, 9));
        x.run(1);
        stands("a card", x, 3, 5, 2, 1);
        x.run(1);
        stands("a card that is done", x, 9, 15, 10, 2);
        Drumline y = Code.with(Code.of(70, 0, 0));
        y.addCard(Code.of(99, 0, 0));
        y.run(1);
        stands("a card over its own instruction", y, 0, 12, 9, 1);
        Check.number("12 the card", y.run(1), 's');
        stands("a card over its own instruction", y, 0, 21, 17, 1);
    }

    /** It is that address alone that is not ready. */
    private static void otherAddressesAreReady() {
        for (int address : new int[] {4, 14, 24, 34, 11, 21, 31}) {
            Drumline x = Code.with(Code.of(70, 1, 3));
            x.put(3, Code.of(12, address, 0));
            x.addCard(6);
            x.run(2);
            int wait = address % 10 == 4 ? 0 : 7;
            stands("another address " + address, x, 0, 7 + wait, wait, 2);
        }
    }

    /** 60 takes "a wait for D". */
    private static void lookingWaitsForD() {
        for (int d = 1; d < 40; d++) {
            Drumline x = Code.with(Code.of(60, d, 3));
            x.run(1);
            int wait = (d + 9) % 10;
            stands("60 at " + d, x, 3, 2 + wait, wait, 1);
            Check.number("14 60 at " + d, x.extension(), d);
        }
        Drumline x = Code.with(Code.of(60, 0, 3));
        x.run(1);
        stands("60 where it stands", x, 3, 11, 9, 1);
        Check.number("14 60 where it stands", x.extension(), 0);
    }

    /** "And for each word that is looked at a wait until it is ready, and 1 beat", "up to the end of the band". */
    private static void lookingTakesABeatAWord() {
        for (int d = 10; d < 40; d++) {
            Drumline x = Code.with(Code.of(12, 1, 5), 5);
            x.put(5, Code.of(60, d, 6));
            int end = d - d % 10 + 10;
            if (end < 40) {
                // The first word of the next band is found by one who looks too far.
                x.put(end, 5);
            }
            if (d % 10 > 0) {
                // The word ahead of D is found by one who looks too early.
                x.put(d - 1, 5);
            }
            x.run(2);
            // 12 takes the beats 0 to 3, the reading of 60 the beat 5.
            int wait = (d % 10 + 4) % 10;
            stands("60 finds none from " + d, x, 6, 6 + wait + end - d, 1 + wait, 2);
            Check.number("14 60 finds none from " + d, x.extension(), -1);
            x.put(end - 1, 5);
            x.start(0);
            x.run(2);
            stands("60 finds the last from " + d, x, 6, 6 + wait + end - d, 1 + wait, 2);
            Check.number("14 60 finds the last from " + d, x.extension(), end - 1);
        }
    }

    /** A word that a card is being read into is waited for by 60 as well. */
    private static void lookingOverACard() {
        Drumline x = Code.with(Code.of(70, 5, 7));
        x.put(7, Code.of(60, 3, 8));
        x.put(3, -1);
        x.put(4, -1);
        x.addCard(0);
        x.run(1);
        stands("the card", x, 7, 7, 4, 1);
        x.run(1);
        stands("60 over the card", x, 8, 16, 4 + 5, 2);
        Check.number("14 60 over the card", x.extension(), 5);
        Drumline y = Code.with(Code.of(70, 5, 7));
        y.put(7, Code.of(60, 5, 8));
        y.addCard(0);
        y.run(2);
        stands("60 at the card", y, 8, 16, 4 + 7, 2);
    }

    /** start: "the address, 0 to 39"; "Returns the address of the instruction that was to come." */
    private static void beginningsAtEachAddress() {
        Drumline x = Code.with(Code.of(12, 1, 2), -7);
        x.put(2, Code.of(51, 37, 3));
        Check.number("11 at first", x.start(0), 0);
        x.run(2);
        Check.number("11 the one that was to come", x.start(39), 37);
        Check.number("13 0 again", x.accumulator(), 0);
        stands("begun", x, 39, 0, 0, 0);
        for (int address = 0; address < 40; address++) {
            Check.number("11 at " + address, x.start(address), address == 0 ? 39 : address - 1);
            stands("at " + address, x, address, 0, 0, 0);
        }
        Drumline y = Code.holding(5, -6);
        y.start(0);
        Check.number("13 0 again", y.accumulator(), 0);
        Check.number("14 0 again", y.extension(), 0);
        stands("begun", y, 0, 0, 0, 0);
        Drumline z = Code.overflowed();
        z.start(3);
        Check.same("16 none noted", z.isOverflow(), false);
    }

    /** Behind a stop, the instruction that was to come is the one at which the machine stands. */
    private static void beginningsBehindStops() {
        long[] words = {Code.of(99, 0, 9), Code.of(70, 5, 9), Code.of(31, 5, 9), Code.of(13, 5, 9), -1};
        char[] due = {'s', 'c', 'd', 'i', 'i'};
        for (int i = 0; i < words.length; i++) {
            Drumline x = new Drumline();
            x.put(37, words[i]);
            Check.number("11 at first", x.start(37), 0);
            Check.number("12 a stop", x.run(3), due[i]);
            Check.number("11 behind a stop", x.start(8), 37);
        }
    }

    /** start "Throws IndexOutOfBoundsException if there is no such address": -1 and 40. */
    private static void noAddressToBeginAt() {
        Drumline x = Code.holding(5, -6);
        for (int address : new int[] {-1, 40, 41, 1000, Integer.MAX_VALUE, Integer.MIN_VALUE}) {
            Check.fails("11 " + address, IndexOutOfBoundsException.class, () -> x.start(address));
        }
        Check.number("13 unchanged", x.accumulator(), -6);
        Check.number("14 unchanged", x.extension(), 5);
        Check.number("15 unchanged", x.next(), 3);
        Check.number("19 unchanged", x.done(), 3);
    }

    /** start: "all addresses are ready": a card that was read late doesn't count in the new beats. */
    private static void beginningsMakeAllReady() {
        Drumline x = Code.with(Code.of(70, 1, 0), 5);
        for (int i = 0; i < 20; i++) {
            x.addCard(Code.of(51, 0, 3));
        }
        x.run(20);
        stands("20 cards", x, 0, 193, 19 * 7, 20);
        x.start(1);
        x.run(1);
        stands("ready at once", x, 3, 3, 1, 1);
    }

    /** run: "how many, 1 to 100": as many as told. */
    private static void leastAndGreatestSteps() {
        Drumline x = Code.with(Code.of(51, 0, 0));
        int done = 0;
        for (int steps : new int[] {1, 2, 99, 100, 1, 100}) {
            Check.number("12 " + steps, x.run(steps), '-');
            done += steps;
            stands("" + steps, x, 0, 10 * (done - 1) + 2, 8 * (done - 1), done);
        }
    }

    /** run "Throws IllegalArgumentException if the number is out of range": 0 and 101. */
    private static void noSteps() {
        Drumline x = Code.holding(5, -6);
        int beat = x.beat();
        for (int steps : new int[] {0, 101, -1, 102, -100, Integer.MAX_VALUE, Integer.MIN_VALUE}) {
            Check.fails("12 " + steps, IllegalArgumentException.class, () -> x.run(steps));
        }
        Check.number("13 unchanged", x.accumulator(), -6);
        Check.number("17 unchanged", x.beat(), beat);
        Check.number("19 unchanged", x.done(), 3);
    }

    /** "Does instructions, as many as told, or up to a stop": a stop is told by the step that comes to it alone. */
    private static void stepsUpToAStop() {
        for (int steps = 1; steps <= 5; steps++) {
            Drumline x = Code.with(Code.of(51, 0, 2), 0, Code.of(51, 0, 4), 0, Code.of(51, 0, 6), 0, Code.of(99, 0, 0));
            Check.number("12 " + steps, x.run(steps), steps <= 3 ? '-' : 's');
            int done = Math.min(3, steps);
            stands("" + steps, x, 2 * done, steps <= 3 ? 2 * steps : 7, 0, done);
        }
    }

    /** waitShare "Throws ArithmeticException if there were none". */
    private static void noShareOfNothing() {
        Drumline x = new Drumline();
        Check.fails("28 at first", ArithmeticException.class, x::waitShare);
        x.run(1);
        Check.same("28 a beat of a stop", x.waitShare(), 0.0f);
        x.start(0);
        Check.fails("28 begun", ArithmeticException.class, x::waitShare);
    }

    /** "Returns their number divided by that of all beats, both converted to float." */
    private static void shares() {
        for (int address = 0; address < 10; address++) {
            Drumline x = new Drumline();
            x.start(address);
            Check.number("12 a stop", x.run(1), 'i');
            Check.same("28 at " + address, x.waitShare(), (float) address / (float) (address + 1));
            // The one stop that these two steps come to waits for a whole turn.
            x.run(2);
            Check.same("28 again at " + address, x.waitShare(), (float) (address + 9) / (float) (address + 11));
        }
    }
}
