/** All that an object of Drumline tells, in one text; takes some 150 of the 512 calls. */
final class Snapshot {
    private Snapshot() {
    }

    static String of(Drumline x) {
        StringBuilder text = new StringBuilder();
        for (int address = 0; address < 40; address++) {
            text.append(x.word(address)).append(x.isGood(address) ? " " : "! ");
        }
        text.append("| ").append(x.checksum()).append(' ').append(x.cards()).append(' ').append(x.punched());
        for (int index = 0; index < x.punched() && index < 20; index++) {
            text.append(' ').append(x.punchedAt(index));
        }
        text.append(" | ").append(x.accumulator()).append(' ').append(x.extension()).append(' ').append(x.next());
        text.append(' ').append(x.isOverflow()).append(' ').append(x.beat()).append(' ').append(x.waits());
        text.append(' ').append(x.done()).append(" |");
        for (int number = 0; number < 16; number++) {
            int line = number;
            text.append(' ').append(Check.outcome(() -> x.placeOf(line)));
        }
        for (int number = 0; number < 8; number++) {
            int datum = number;
            text.append(' ').append(Check.outcome(() -> x.placeOfDatum(datum)));
        }
        text.append(' ').append(Check.outcome(() -> x.foretold(false)));
        text.append(' ').append(Check.outcome(() -> x.foretold(true)));
        text.append(' ').append(Check.outcome(x::waitShare)).append(' ').append(Check.outcome(x::meanPunched));
        return text.append(' ').append(x.isSound()).toString();
    }
}
