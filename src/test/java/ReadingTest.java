/** Promises 14 to 21: read, byteAt, hidden, differs, find, least, lend, back. */
public final class ReadingTest {
    private static final Checks c = new Checks();

    public static void main(String[] args) {
        readShowsWhatIsSeen();
        readWritesTheLog();
        readRefuses();
        byteAtTells();
        hiddenCounts();
        differsFinds();
        findLooks();
        leastReach();
        leastAgainstHidden();
        lendGives();
        lendRefuses();
        backBrings();
        c.end();
    }

    /** Cases 0 (seal 0) and 1 (seal 5); a clerk 0, a judge 0, a lawyer 3, public 0 and public 9. */
    private static CourtMail room() {
        CourtMail x = new CourtMail();
        x.open(0);
        x.open(5);
        x.addPerson(0, 0);
        x.addPerson(1, 0);
        x.addPerson(2, 3);
        x.addPerson(3, 0);
        x.addPerson(3, 9);
        return x;
    }

    private static void readShowsWhatIsSeen() {
        CourtMail x = room();
        Checks.file(x, 0, "By {Anna}\n[3:b\nc][4:{Bo}]");
        c.due("clerk", Checks.read(x, 0, 0), "By A***\n#\n###");
        c.due("judge", Checks.read(x, 1, 0), "By Anna\nb\ncBo");
        c.due("lawyer", Checks.read(x, 2, 0), "By Anna\nb\nc##");
        c.due("public 0", Checks.read(x, 3, 0), "By A***\n#\n###");
        c.due("public 9", Checks.read(x, 4, 0), "By Anna\nb\ncBo");
        x.attach(0, 0);
        c.due("clerk, attached", Checks.read(x, 0, 0), "By Anna\n#\n###");
        x.attach(2, 0);
        c.due("lawyer, attached", Checks.read(x, 2, 0), "By Anna\nb\ncBo");
        // a name with the level 0 behind a veil of its own
        x.veil(0, 0, 13, 0);
        c.due("public 0, no veils", Checks.read(x, 3, 0), "By A***\nb\ncB*");
        x.veil(0, 0, 13, 9);
        c.due("public 0, all veiled", Checks.read(x, 3, 0), "#######\n#\n###");
        c.due("read tells the bytes", x.read(3, 0), 13);
    }

    private static void readWritesTheLog() {
        CourtMail x = room();
        Checks.file(x, 1, "secret");
        Checks.file(x, 0, "open paper");
        c.due("judge reads", x.read(1, 0), 6);
        c.due("log", x.document(0, 7), 2);
        c.due("lawyer cannot", x.read(2, 0), -1);
        c.due("log", x.document(0, 7), 2);
        c.due("the paper stays", Checks.paper(x), "secret");
        c.due("public 9 reads", x.read(4, 0), 6);
        c.due("judge reads again", x.read(1, 0), 6);
        c.due("log", x.document(0, 7), 18);
        c.due("the other's log", x.document(1, 7), 0);
        c.due("clerk reads the other", x.read(0, 1), 10);
        c.due("the other's log", x.document(1, 7), 1);
        c.due("the log", x.document(0, 7), 18);
        c.due("the paper is another", Checks.paper(x), "open paper");
        x.read(1, 0);
        c.due("a shorter paper", x.count(9), 6);
        x.file(0);
        c.due("an empty document", x.read(0, 2), 0);
        c.due("is read", x.document(2, 7), 1);
        c.due("an empty paper", x.count(9), 0);
    }

    private static void readRefuses() {
        CourtMail x = room();
        c.refused("read(0, 0) without documents", x, Checks.NO_INDEX, () -> x.read(0, 0));
        Checks.file(x, 0, "abc");
        x.read(0, 0);
        c.refused("read(-1, 0)", x, Checks.NO_INDEX, () -> x.read(-1, 0));
        c.refused("read(5, 0)", x, Checks.NO_INDEX, () -> x.read(5, 0));
        c.refused("read(0, -1)", x, Checks.NO_INDEX, () -> x.read(0, -1));
        c.refused("read(0, 1)", x, Checks.NO_INDEX, () -> x.read(0, 1));
    }

    private static void byteAtTells() {
        CourtMail x = room();
        c.refused("byteAt(0) without paper", x, Checks.NO_INDEX, () -> x.byteAt(0));
        Checks.file(x, 0, "a\n~{Xy}[9:z]");
        x.read(3, 0);
        int[] bytes = {97, 10, 126, 88, 42, 35};
        for (int i = 0; i < bytes.length; i++) {
            c.due("byteAt(" + i + ")", x.byteAt(i), bytes[i]);
        }
        c.refused("byteAt(-1)", x, Checks.NO_INDEX, () -> x.byteAt(-1));
        c.refused("byteAt(6)", x, Checks.NO_INDEX, () -> x.byteAt(6));
        c.refused("byteAt(MAX)", x, Checks.NO_INDEX, () -> x.byteAt(Integer.MAX_VALUE));
        Checks.file(x, 0, "q");
        x.read(3, 1);
        c.due("byteAt(0)", x.byteAt(0), 113);
        c.refused("byteAt(1) of a shorter paper", x, Checks.NO_INDEX, () -> x.byteAt(1));
        // the paper keeps what was seen then
        x.veil(1, 0, 1, 9);
        c.due("byteAt(0) behind a veil", x.byteAt(0), 113);
    }

    private static void hiddenCounts() {
        CourtMail x = room();
        Checks.file(x, 0, "a{Anna}[3:b#\nc]#");
        c.due("clerk", x.hidden(0, 0), 5);
        c.due("judge", x.hidden(1, 0), 0);
        c.due("lawyer", x.hidden(2, 0), 0);
        c.due("public 0", x.hidden(3, 0), 5);
        x.attach(3, 0);
        c.due("public 0, attached", x.hidden(3, 0), 2);
        c.due("nothing is written", x.document(0, 7), 0);
        c.due("no paper", x.count(9), 0);
        Checks.file(x, 1, "###\n");
        c.due("lawyer, another case: all", x.hidden(2, 1), 4);
        c.due("public 9", x.hidden(4, 1), 0);
        x.veil(1, 0, 4, 9);
        x.seal(1, 3);
        c.due("signs that stay signs", x.hidden(2, 1), 0);
        x.file(1);
        x.seal(1, 9);
        c.due("all of no bytes", x.hidden(2, 2), 0);
        c.refused("hidden(-1, 0)", x, Checks.NO_INDEX, () -> x.hidden(-1, 0));
        c.refused("hidden(5, 0)", x, Checks.NO_INDEX, () -> x.hidden(5, 0));
        c.refused("hidden(0, -1)", x, Checks.NO_INDEX, () -> x.hidden(0, -1));
        c.refused("hidden(0, 3)", x, Checks.NO_INDEX, () -> x.hidden(0, 3));
    }

    private static void differsFinds() {
        CourtMail x = room();
        Checks.file(x, 0, "ab[3:#\nc]d{Bo}");
        c.due("judge and lawyer", x.differs(1, 2, 0), -1);
        c.due("judge and clerk", x.differs(1, 0, 0), 4);
        c.due("clerk and judge", x.differs(0, 1, 0), 4);
        c.due("clerk and public 0", x.differs(0, 3, 0), -1);
        c.due("one and the same", x.differs(0, 0, 0), -1);
        x.attach(0, 0);
        c.due("clerk, attached, and public 0", x.differs(0, 3, 0), 7);
        Checks.file(x, 1, "xy");
        c.due("one sees nothing", x.differs(1, 2, 1), 0);
        c.due("the other sees nothing", x.differs(3, 1, 1), 0);
        c.due("both see nothing", x.differs(3, 2, 1), -1);
        x.file(1);
        c.due("an empty document", x.differs(1, 2, 2), -1);
        c.due("nothing is written", x.document(0, 7) + x.document(1, 7), 0);
        c.refused("differs(-1, 0, 0)", x, Checks.NO_INDEX, () -> x.differs(-1, 0, 0));
        c.refused("differs(5, 0, 0)", x, Checks.NO_INDEX, () -> x.differs(5, 0, 0));
        c.refused("differs(0, -1, 0)", x, Checks.NO_INDEX, () -> x.differs(0, -1, 0));
        c.refused("differs(0, 5, 0)", x, Checks.NO_INDEX, () -> x.differs(0, 5, 0));
        c.refused("differs(0, 1, -1)", x, Checks.NO_INDEX, () -> x.differs(0, 1, -1));
        c.refused("differs(0, 1, 3)", x, Checks.NO_INDEX, () -> x.differs(0, 1, 3));
    }

    private static int find(CourtMail x, String text, int person, int document) {
        x.trim(0);
        Checks.write(x, text);
        return x.find(person, document);
    }

    private static void findLooks() {
        CourtMail x = room();
        Checks.file(x, 0, "anannis [3:anna] {Anna}\nend");
        c.due("an", find(x, "an", 1, 0), 0);
        c.due("ann", find(x, "ann", 1, 0), 2);
        c.due("anna", find(x, "anna", 1, 0), 8);
        c.due("anna, veiled", find(x, "anna", 0, 0), -1);
        c.due("####", find(x, "####", 0, 0), 8);
        c.due("#####", find(x, "#####", 0, 0), -1);
        c.due("A***", find(x, "A***\n", 3, 0), 13);
        c.due("Anna for the lawyer", find(x, "Anna\ne", 2, 0), 13);
        c.due("A*** for the lawyer", find(x, "A***", 2, 0), -1);
        c.due("the end", find(x, "end", 1, 0), 18);
        c.due("beyond the end", find(x, "end ", 1, 0), -1);
        c.due("all", find(x, "anannis anna Anna\nend", 1, 0), 0);
        c.due("more than all", find(x, "anannis anna Anna\nend!", 1, 0), -1);
        c.due("the tape stays", x.count(8), 22);
        c.due("no byte of a document", find(x, "" + (char) 200, 1, 0), -1);
        c.due("an empty tape", find(x, "", 1, 0), -1);
        c.due("nothing is written", x.document(0, 7), 0);
        Checks.file(x, 1, "case");
        c.due("one who sees the case", find(x, "as", 4, 1), 1);
        c.due("one who does not", x.find(2, 1), -1);
        c.refused("find(-1, 0)", x, Checks.NO_INDEX, () -> x.find(-1, 0));
        c.refused("find(5, 0)", x, Checks.NO_INDEX, () -> x.find(5, 0));
        c.refused("find(0, -1)", x, Checks.NO_INDEX, () -> x.find(0, -1));
        c.refused("find(0, 2)", x, Checks.NO_INDEX, () -> x.find(0, 2));
        x.trim(0);
        x.file(0);
        c.due("in an empty document", find(x, "a", 1, 2), -1);
        // the tape that was looked for is filed then
        x.trim(0);
        Checks.write(x, "as");
        x.find(4, 1);
        x.file(0);
        c.due("the tape, whole", Checks.read(x, 1, 3), "as");
    }

    private static void leastReach() {
        CourtMail x = room();
        Checks.file(x, 0, "ab{Anna}[4:c#\n]#[9:z]");
        c.due("plain", x.least(0, 0, 2), 0);
        c.due("a name's first byte", x.least(0, 0, 3), 0);
        c.due("a name", x.least(0, 0, 4), 1);
        c.due("a veil", x.least(0, 0, 7), 4);
        c.due("only the sign", x.least(0, 7, 8), 0);
        c.due("only the sign and the line end", x.least(0, 7, 10), 0);
        c.due("all", x.least(0, 0, 11), 9);
        c.due("the last", x.least(0, 10, 11), 9);
        c.due("none", x.least(0, 11, 11), 0);
        x.seal(0, 3);
        c.due("none, sealed", x.least(0, 5, 5), 3);
        c.due("plain, sealed", x.least(0, 0, 4), 3);
        c.due("a veil, sealed", x.least(0, 0, 7), 4);
        x.seal(0, 9);
        c.due("none, sealed by 9", x.least(0, 0, 0), 9);
        x.seal(0, 0);
        x.veil(0, 3, 4, 2);
        c.due("a veiled mark", x.least(0, 3, 4), 2);
        c.refused("least(-1, 0, 0)", x, Checks.NO_INDEX, () -> x.least(-1, 0, 0));
        c.refused("least(1, 0, 0)", x, Checks.NO_INDEX, () -> x.least(1, 0, 0));
        c.refused("least(1, 5, 4)", x, Checks.NO_INDEX, () -> x.least(1, 5, 4));
        c.refused("least(0, -1, 0)", x, Checks.NO_ARGUMENT, () -> x.least(0, -1, 0));
        c.refused("least(0, 5, 4)", x, Checks.NO_ARGUMENT, () -> x.least(0, 5, 4));
        c.refused("least(0, 0, 12)", x, Checks.NO_ARGUMENT, () -> x.least(0, 0, 12));
        c.refused("least(0, 12, 12)", x, Checks.NO_ARGUMENT, () -> x.least(0, 12, 12));
    }

    private static void leastAgainstHidden() {
        CourtMail x = new CourtMail();
        for (int clearance = 0; clearance <= 9; clearance++) {
            x.addPerson(3, clearance);
        }
        for (int seal = 0; seal <= 3; seal++) {
            x.open(seal);
            for (String text : new String[] {"ab", "a{Bc}", "[1:a]", "[2:a]{Bc}", "[6:#]\n", "[7:#a]"}) {
                int d = Checks.file(x, seal, text);
                int least = 0;
                while (x.hidden(least, d) != 0) {
                    least++;
                }
                c.due("least of <" + text + "> seal " + seal, x.least(d, 0, x.document(d, 1)), least);
            }
        }
    }

    private static void lendGives() {
        CourtMail x = room();
        Checks.file(x, 0, "abc");
        Checks.file(x, 0, "[3:b#]");
        x.pass(4);
        c.due("lend for 1", x.lend(0, 3, 1), 5);
        c.due("who", x.document(0, 5), 3);
        c.due("by which day", x.document(0, 6), 5);
        c.due("out", x.count(11), 1);
        c.due("lend to the lawyer for 60", x.lend(1, 2, 60), 64);
        c.due("out", x.count(11), 2);
        c.due("the log stays", x.document(1, 7), 0);
        c.due("originals of the lawyer", x.person(2, 5), 1);
        // a sign that looks the same is not hidden, and of no bytes none is
        Checks.file(x, 0, "[9:#\n]");
        c.due("lend signs", x.lend(2, 3, 2), 6);
        x.file(1);
        c.due("lend no bytes", x.lend(3, 3, 2), 6);
    }

    private static void lendRefuses() {
        CourtMail x = room();
        c.refused("no document", x, Checks.NO_INDEX, () -> x.lend(0, 0, 1));
        Checks.file(x, 0, "a[2:b]");
        Checks.file(x, 1, "c");
        Checks.file(x, 0, "{Ab}");
        c.refused("lend(-1, 1, 1)", x, Checks.NO_INDEX, () -> x.lend(-1, 1, 1));
        c.refused("lend(3, 1, 1)", x, Checks.NO_INDEX, () -> x.lend(3, 1, 1));
        c.refused("lend(0, -1, 1)", x, Checks.NO_INDEX, () -> x.lend(0, -1, 1));
        c.refused("lend(0, 5, 1)", x, Checks.NO_INDEX, () -> x.lend(0, 5, 1));
        c.refused("lend(0, 5, 0)", x, Checks.NO_INDEX, () -> x.lend(0, 5, 0));
        c.refused("lend(0, 1, 0)", x, Checks.NO_ARGUMENT, () -> x.lend(0, 1, 0));
        c.refused("lend(0, 1, 61)", x, Checks.NO_ARGUMENT, () -> x.lend(0, 1, 61));
        c.refused("lend(0, 3, 61)", x, Checks.NO_ARGUMENT, () -> x.lend(0, 3, 61));
        c.refused("a byte is hidden", x, Checks.NO_STATE, () -> x.lend(0, 3, 1));
        c.refused("a case is hidden", x, Checks.NO_STATE, () -> x.lend(1, 2, 1));
        c.refused("a name is hidden", x, Checks.NO_STATE, () -> x.lend(2, 3, 1));
        x.lend(0, 1, 3);
        c.refused("it is out", x, Checks.NO_STATE, () -> x.lend(0, 2, 1));
        c.refused("it is with this one", x, Checks.NO_STATE, () -> x.lend(0, 1, 1));
        c.refused("it is out, days 0", x, Checks.NO_ARGUMENT, () -> x.lend(0, 2, 0));
        x.back(0);
        c.due("it is in again", x.lend(0, 2, 1), 1);
    }

    private static void backBrings() {
        CourtMail x = room();
        Checks.file(x, 0, "abc");
        Checks.file(x, 0, "def");
        c.due("back of one in the room", x.back(0), -1);
        x.lend(0, 0, 3);
        x.lend(1, 4, 3);
        c.due("back(0)", x.back(0), 0);
        c.due("back(0) again", x.back(0), -1);
        c.due("it is in the room", x.document(0, 5), -1);
        c.due("by no day", x.document(0, 6), -1);
        c.due("the other is out", x.document(1, 5), 4);
        c.due("out", x.count(11), 1);
        x.pass(5);
        c.due("no warning for one that was brought", x.person(0, 4), 0);
        c.due("a warning for one that was not", x.person(4, 4), 1);
        c.refused("back(-1)", x, Checks.NO_INDEX, () -> x.back(-1));
        c.refused("back(2)", x, Checks.NO_INDEX, () -> x.back(2));
    }
}
