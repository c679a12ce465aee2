/**
 * Files every tape of up to five of the signs that the grammar tells apart, and compares number, error and text
 * with what a reading by descent, rule by rule as the document writes them, makes of it.
 */
public final class GrammarTest {
    private static final String SIGNS = "[]{}@:019aZ\n\t#";
    private static final int MOST_SIGNS = 5;
    // an object is used for so many calls at most, and takes so many documents
    private static final int CALLS = 512;
    private static final int DOCUMENTS = 24;
    private static final int EXHIBITS = 20;

    private final Checks checks = new Checks();
    private CourtMail x;
    private int used;
    private int filed;

    // the reading by descent
    private String tape;
    private int at;
    private int error;
    private int foreign;
    private final StringBuilder text = new StringBuilder();

    public static void main(String[] args) {
        GrammarTest test = new GrammarTest();
        test.newRoom();
        for (int length = 0; length <= MOST_SIGNS; length++) {
            test.every(new char[length], 0);
        }
        test.checks.end();
    }

    private void every(char[] signs, int from) {
        if (from == signs.length) {
            check(new String(signs));
            return;
        }
        for (int i = 0; i < SIGNS.length(); i++) {
            signs[from] = SIGNS.charAt(i);
            every(signs, from + 1);
        }
    }

    /** A room with a judge, who sees all, and two cases; the even exhibits are of the case 0. */
    private void newRoom() {
        x = new CourtMail();
        x.open(0);
        x.open(0);
        x.addPerson(1, 0);
        for (int i = 0; i < EXHIBITS; i++) {
            x.takeIn(i % 2);
        }
        used = 3 + EXHIBITS;
        filed = 0;
    }

    private void check(String t) {
        // a byte of the tape becomes 2 1/2 of the text at most, and each of them is a call
        if (used + 8 + 3 * t.length() > CALLS || filed >= DOCUMENTS) {
            newRoom();
        }
        readDocument(t);
        int want = error >= 0 ? -1 : foreign >= 0 ? -2 : filed;
        String call = "file of <" + t + ">";
        int got = Checks.file(x, 0, t);
        checks.due(call, got, want);
        checks.due("errorAt behind " + call, x.errorAt(), Math.max(error, foreign));
        used += 5;
        if (got != want) {
            // the room may have one document more, or one less, than it should have
            newRoom();
        } else if (want >= 0) {
            filed++;
            checks.due("text of <" + t + ">", Checks.read(x, 0, want), text.toString());
            used += 2 + text.length();
        }
    }

    private void readDocument(String t) {
        tape = t;
        at = 0;
        error = -1;
        foreign = -1;
        text.setLength(0);
        readBody(0);
        if (error < 0 && at < tape.length()) {
            error = at;
        }
        if (error >= 0) {
            foreign = -1;
        }
    }

    private void readBody(int depth) {
        while (error < 0 && at < tape.length()) {
            char b = tape.charAt(at);
            if (b == '[') {
                readVeil(depth + 1);
            } else if (b == '{') {
                readName();
            } else if (b == '@') {
                readExhibit();
            } else if (b != ']' && b != '}' && (b == '\n' || b >= ' ' && b <= '~')) {
                text.append(b);
                at++;
            } else {
                return;
            }
        }
    }

    private void readVeil(int depth) {
        if (depth > 5) {
            error = at;
            return;
        }
        readOneOf("[");
        readOneOf("123456789");
        readOneOf(":");
        readBody(depth);
        readOneOf("]");
    }

    private void readName() {
        readOneOf("{");
        int first = at;
        while (at < tape.length() && at < first + 12 && Character.isLetter(tape.charAt(at))) {
            text.append(tape.charAt(at));
            at++;
        }
        // without a letter nothing is right here, not even the end of the name
        readOneOf(at == first ? "abc" : "}");
    }

    private void readExhibit() {
        int mark = at;
        readOneOf("@");
        int first = at;
        readOneOf("0123456789");
        while (error < 0 && at < tape.length() && at < first + 3 && Character.isDigit(tape.charAt(at))) {
            at++;
        }
        if (error >= 0) {
            return;
        }
        int number = Integer.parseInt(tape.substring(first, at));
        if ((number >= EXHIBITS || number % 2 == 1) && foreign < 0) {
            foreign = mark;
        }
        text.append("Ex. ").append(number);
    }

    /** Takes a sign that has to come here, or tells where another one, or the end, came instead. */
    private void readOneOf(String signs) {
        if (error >= 0) {
            return;
        }
        if (at < tape.length() && signs.indexOf(tape.charAt(at)) >= 0) {
            at++;
        } else {
            error = at;
        }
    }
}
