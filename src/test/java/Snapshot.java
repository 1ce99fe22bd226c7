/** All that an object of Drumline tells, in texts. */
final class Snapshot {
    private Snapshot() {
    }

    /** What can be asked without changing anything; takes some 150 of the 512 calls. */
    static String of(Drumline x) {
        StringBuilder text = new StringBuilder();
        for (int address = 0; address < 40; address++) {
            text.append(x.word(address)).append(x.isGood(address) ? " " : "! ");
        }
        text.append("| ").append(x.checksum()).append(' ').append(x.cards()).append(' ').append(x.punched());
        for (int index = 0; index < x.punched() && index < 20; index++) {
            text.append(' ').append(x.punchedAt(index));
        }
        text.append(" | ").append(x.accumulator()).append(' ').append(x.extension()).append(' ').append(x.next());
        text.append(' ').append(x.isOverflow()).append(' ').append(x.beat()).append(' ').append(x.waits());
        text.append(' ').append(x.done()).append(" |");
        for (int number = 0; number < 16; number++) {
            int line = number;
            text.append(' ').append(Check.outcome(() -> x.placeOf(line)));
        }
        for (int number = 0; number < 8; number++) {
            int datum = number;
            text.append(' ').append(Check.outcome(() -> x.placeOfDatum(datum)));
        }
        text.append(' ').append(Check.outcome(() -> x.foretold(false)));
        text.append(' ').append(Check.outcome(() -> x.foretold(true)));
        text.append(' ').append(Check.outcome(x::waitShare)).append(' ').append(Check.outcome(x::meanPunched));
        return text.append(' ').append(x.isSound()).toString();
    }

    /** What shows by changing it alone: the steps to come, the source, the panel, the cards; some 120 calls. */
    static String within(Drumline x) {
        StringBuilder text = new StringBuilder();
        text.append(x.run(3)).append(x.beat()).append(' ').append(x.waits()).append(' ').append(x.next()).append(" |");
        text.append(Check.outcome(() -> x.assemble(false)));
        for (int address = 0; address < 24; address++) {
            text.append(' ').append(x.word(address));
        }
        text.append(" |").append(Check.outcome(() -> x.addDatum(1))).append(Check.outcome(() -> x.addLine(99, 0, 0)));
        text.append(x.clearSource()).append(" |");
        for (int digit = 1; digit <= 10; digit++) {
            text.append(' ').append(x.wire(digit, digit));
        }
        x.put(0, Code.of(70, 1, 0));
        for (int left = x.cards(); left > 0; left--) {
            x.start(0);
            text.append(' ').append(x.run(1)).append(x.word(1));
        }
        return text.toString();
    }
}
