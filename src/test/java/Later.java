import java.util.function.LongSupplier;

/**
 * What can be asked of a room behind some calls, as one text; the room is worn out by it.
 * digest() leaves out the bytes of the tape, the places of the marks and what days will bring: this tells them too.
 */
final class Later {
    private final CourtMail x;
    private final StringBuilder told = new StringBuilder();

    private Later(CourtMail x) {
        this.x = x;
    }

    static String told(CourtMail x) {
        Later l = new Later(x);
        l.tellState();
        l.tellWhoSeesWhat();
        l.tellTape();
        l.tellNewNumbers();
        l.tellDays();
        return l.told.toString();
    }

    private void ask(LongSupplier call) {
        try {
            told.append(call.getAsLong());
        } catch (RuntimeException e) {
            told.append(e.getClass().getSimpleName());
        }
        told.append(' ');
    }

    private void tellState() {
        ask(x::digest);
        ask(x::errorAt);
        told.append(x.plain()).append(' ');
    }

    private void tellWhoSeesWhat() {
        for (int p = 0; p < Math.min(5, x.count(2)); p++) {
            int person = p;
            for (int d = 0; d < Math.min(5, x.count(3)); d++) {
                int document = d;
                ask(() -> x.hidden(person, document));
                ask(() -> x.find(person, document));
            }
        }
        ask(() -> x.read(0, 0));
        tellState();
    }

    private void tellTape() {
        ask(() -> x.file(0));
        tellState();
    }

    private void tellNewNumbers() {
        ask(() -> x.addPerson(1, 0));
        ask(() -> x.open(0));
        ask(() -> x.takeIn(0));
        ask(() -> x.send(0, 0, 0));
        tellState();
    }

    private void tellDays() {
        for (int l = 0; l < x.count(5); l++) {
            int letter = l;
            ask(() -> x.arrives(letter));
        }
        for (int days : new int[] {1, 1, 60}) {
            ask(() -> x.pass(days));
            tellState();
        }
    }
}
