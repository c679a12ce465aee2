/** Promises 14 to 21, and "2. Who sees what": a test for each sentence that names an edge. */
public final class ReadingEdgesTest {
    private static final Checks c = new Checks();

    public static void main(String[] args) {
        levelsAndReachesMeet();
        lineEndsAreAlwaysSeen();
        marksAreSeenWithTheReachOne();
        readTakesItsBounds();
        readIntoAnotherCaseLeavesThePaper();
        readIsWrittenOnce();
        paperGoesFromEmptyToTheLongest();
        byteAtTakesItsBounds();
        hiddenTakesItsBounds();
        hiddenGoesFromNoneToAll();
        hiddenCountsOnlyOtherBytes();
        differsTakesItsBounds();
        differsAtTheFirstAndTheLast();
        differsForThoseWhoSeeNothing();
        findTakesItsBounds();
        findFromTheFirstPlaceToTheLast();
        findWithTheEmptyTapeAndTheLong();
        findLooksAtWhatIsSeen();
        leastTakesItsBounds();
        leastRefusesInOrder();
        leastIsJustEnough();
        lendTakesItsBounds();
        lendRefusesInOrder();
        lendNeedsAllBytesSeen();
        lendNeedsTheOriginalInTheRoom();
        backTakesItsBounds();
        backBringsOnce();
        c.end();
    }

    /**
     * A case with the seal 0 and one with the seal 5; a judge 0 and public 1 to 10 with the clearances 0 to 9;
     * a document of each case, an empty one of each, and a tape.
     */
    private static CourtMail room() {
        CourtMail x = new CourtMail();
        x.open(0);
        x.open(5);
        x.addPerson(1, 0);
        for (int clearance = 0; clearance <= 9; clearance++) {
            x.addPerson(3, clearance);
        }
        Checks.file(x, 0, "ab{Cd}\n[4:ef]");
        Checks.file(x, 1, "secret");
        x.file(0);
        x.file(1);
        Checks.write(x, "e");
        return x;
    }

    private static CourtMail roomWith(String text) {
        CourtMail x = room();
        x.trim(0);
        c.due("file <" + text + ">", Checks.file(x, 0, text), 4);
        return x;
    }

    /** The same with something on the paper. */
    private static CourtMail roomWithPaper() {
        CourtMail x = room();
        x.read(0, 0);
        return x;
    }

    // ---- what one sees

    /** "each byte with a level that is not greater than the reach": as great is seen, one more is # (35). */
    private static void levelsAndReachesMeet() {
        for (int level = 1; level <= 9; level++) {
            CourtMail x = roomWith("[" + level + ":x]");
            for (int reach = 0; reach <= 9; reach++) {
                c.due("read level " + level, x.read(reach + 1, 4), 1);
                c.due("level " + level + ", reach " + reach, x.byteAt(0), level <= reach ? 120 : 35);
            }
            x.read(0, 4);
            c.due("level " + level + ", judge", x.byteAt(0), 120);
            x.attach(8, 0);
            x.read(8, 4);
            c.due("level " + level + ", 7 and attached", x.byteAt(0), 120);
            x.attach(1, 0);
            x.read(1, 4);
            c.due("level " + level + ", 0 and attached", x.byteAt(0), level <= 2 ? 120 : 35);
        }
        CourtMail y = roomWith("x");
        y.read(1, 4);
        c.due("level 0, reach 0", y.byteAt(0), 120);
    }

    private static void lineEndsAreAlwaysSeen() {
        CourtMail x = roomWith("[9:\na\n]\n");
        c.due("with the reach 0", Checks.read(x, 1, 4), "\n#\n\n");
        c.due("with the reach 8", Checks.read(x, 9, 4), "\n#\n\n");
        c.due("with the reach 9", Checks.read(x, 10, 4), "\na\n\n");
        CourtMail y = roomWith("[1: ]");
        c.due("a blank is none", Checks.read(y, 1, 4), "#");
    }

    /** "A marked byte that would be seen is * (42), if the reach is 0." */
    private static void marksAreSeenWithTheReachOne() {
        CourtMail x = roomWith("{Anna}[1:{Bo}]");
        c.due("reach 0", Checks.read(x, 1, 4), "A***##");
        c.due("reach 1", Checks.read(x, 2, 4), "AnnaBo");
        c.due("judge without clearance", Checks.read(x, 0, 4), "AnnaBo");
        x.attach(1, 1);
        c.due("attached to another case", Checks.read(x, 1, 4), "A***##");
        x.attach(1, 0);
        c.due("attached to this one", Checks.read(x, 1, 4), "AnnaBo");
        x.attach(1, 0);
        x.veil(4, 4, 6, 0);
        c.due("a mark stays when the veil is gone", Checks.read(x, 1, 4), "A***B*");
        x.veil(4, 1, 2, 1);
        c.due("a mark that would not be seen", Checks.read(x, 1, 4), "A#**B*");
    }

    // ---- promises 14 and 15

    private static void readTakesItsBounds() {
        c.range(ReadingEdgesTest::roomWithPaper, "read: person", 0, 10, Checks.NO_INDEX, (x, n) -> x.read(n, 1));
        c.range(ReadingEdgesTest::roomWithPaper, "read: document", 0, 3, Checks.NO_INDEX, (x, n) -> x.read(0, n));
        c.refusedIn(ReadingEdgesTest::roomWithPaper, "read: neither", Checks.NO_INDEX, x -> x.read(11, 4));
    }

    private static void readIntoAnotherCaseLeavesThePaper() {
        CourtMail x = roomWithPaper();
        for (int clearance = 0; clearance <= 4; clearance++) {
            long before = x.digest();
            c.due("clearance " + clearance + ", seal 5", x.read(clearance + 1, 1), -1);
            c.due("clearance " + clearance + ", no bytes", x.read(clearance + 1, 3), -1);
            c.due("nothing is changed", x.digest(), before);
        }
        c.due("the paper", Checks.paper(x), "abCd\nef");
        c.due("the log", x.document(1, 7), 0);
        c.due("clearance 5, seal 5", x.read(6, 1), 6);
        c.due("the paper", Checks.paper(x), "secret");
        c.due("the log", x.document(1, 7), 64);
        CourtMail y = room();
        c.due("an empty paper", y.read(1, 1), -1);
        c.due("stays empty", y.count(9), 0);
    }

    /** "Who reads a document is written in its log, once." */
    private static void readIsWrittenOnce() {
        CourtMail x = room();
        x.addPerson(3, 0);
        for (int i = 0; i < 2; i++) {
            x.read(0, 0);
            c.due("the first person", x.document(0, 7), 1);
        }
        for (int i = 0; i < 2; i++) {
            x.read(11, 0);
            c.due("the first and the twelfth", x.document(0, 7), 1 + 2048);
        }
        c.due("another document", x.document(2, 7), 0);
    }

    private static void paperGoesFromEmptyToTheLongest() {
        CourtMail x = room();
        c.due("no paper at first", x.count(9), 0);
        c.due("no bytes", x.read(0, 2), 0);
        c.due("are an empty paper", x.count(9), 0);
        c.due("and are read", x.document(2, 7), 1);
        x.trim(0);
        x.takeIn(0);
        Checks.file(x, 0, Checks.times("@0", 500));
        c.due("the most bytes", x.read(10, 4), 2500);
        c.due("the paper", x.count(9), 2500);
        c.due("first", x.byteAt(0), 'E');
        c.due("last", x.byteAt(2499), '0');
        c.refused("behind the last", x, Checks.NO_INDEX, () -> x.byteAt(2500));
        c.due("in the place of what was there", x.read(0, 0), 7);
        c.refused("what was there", x, Checks.NO_INDEX, () -> x.byteAt(7));
        c.due("an empty one again", x.read(0, 2), 0);
        c.refused("of the empty one", x, Checks.NO_INDEX, () -> x.byteAt(0));
    }

    private static void byteAtTakesItsBounds() {
        c.range(ReadingEdgesTest::roomWithPaper, "byteAt of 7", 0, 6, Checks.NO_INDEX, CourtMail::byteAt);
        for (int bad : new int[] {0, -1, 1, Integer.MAX_VALUE, Integer.MIN_VALUE}) {
            c.refusedIn(ReadingEdgesTest::room, "byteAt of none", Checks.NO_INDEX, x -> x.byteAt(bad));
        }
    }

    // ---- promise 16

    private static void hiddenTakesItsBounds() {
        c.range(ReadingEdgesTest::roomWithPaper, "hidden: person", 0, 10, Checks.NO_INDEX, (x, n) -> x.hidden(n, 1));
        c.range(ReadingEdgesTest::roomWithPaper, "hidden: document", 0, 3, Checks.NO_INDEX, (x, n) -> x.hidden(0, n));
        c.refusedIn(ReadingEdgesTest::roomWithPaper, "hidden: neither", Checks.NO_INDEX, x -> x.hidden(-1, -1));
    }

    private static void hiddenGoesFromNoneToAll() {
        CourtMail x = roomWithPaper();
        long before = x.digest();
        int[] due = {0, 3, 2, 2, 2, 0, 0, 0, 0, 0, 0};
        for (int p = 0; p <= 10; p++) {
            c.due("hidden of 0 for " + p, x.hidden(p, 0), due[p]);
            c.due("hidden of the sealed one for " + p, x.hidden(p, 1), p >= 1 && p <= 5 ? 6 : 0);
            c.due("hidden of no bytes for " + p, x.hidden(p, 2), 0);
            c.due("hidden of no sealed bytes for " + p, x.hidden(p, 3), 0);
        }
        c.due("nothing is written", x.digest(), before);
    }

    /** A byte that is seen as it is is no other byte: a line end, and also a # behind a veil. */
    private static void hiddenCountsOnlyOtherBytes() {
        CourtMail x = roomWith("[9:#\n#\"$]#");
        c.due("for the reach 0", x.hidden(1, 4), 2);
        c.due("for the reach 9", x.hidden(10, 4), 0);
        x.seal(0, 1);
        c.due("all, for one who cannot see into the case", x.hidden(1, 4), 6);
        CourtMail y = roomWith("**{Ab}*");
        c.due("stars of no name are no other bytes", y.hidden(1, 4), 1);
    }

    // ---- promise 17

    private static void differsTakesItsBounds() {
        c.range(ReadingEdgesTest::roomWithPaper, "differs: a", 0, 10, Checks.NO_INDEX, (x, n) -> x.differs(n, 1, 0));
        c.range(ReadingEdgesTest::roomWithPaper, "differs: b", 0, 10, Checks.NO_INDEX, (x, n) -> x.differs(1, n, 0));
        c.range(ReadingEdgesTest::roomWithPaper, "differs: document", 0, 3, Checks.NO_INDEX,
            (x, n) -> x.differs(0, 1, n));
        c.range(ReadingEdgesTest::roomWithPaper, "differs: both", 0, 10, Checks.NO_INDEX,
            (x, n) -> x.differs(n, n, 1));
    }

    private static void bothWays(CourtMail x, String what, int a, int b, int document, int due) {
        long before = x.digest();
        c.due(what, x.differs(a, b, document), due);
        c.due(what + ", the other way", x.differs(b, a, document), due);
        c.due(what + ", nothing is written", x.digest(), before);
    }

    private static void differsAtTheFirstAndTheLast() {
        bothWays(roomWith("[1:a]bc"), "the first byte", 1, 2, 4, 0);
        bothWays(roomWith("ab[1:c]"), "the last byte", 1, 2, 4, 2);
        bothWays(roomWith("a{Bc}"), "a mark at the last", 1, 2, 4, 2);
        bothWays(roomWith("a[1:b]c[2:d]"), "the first of two", 1, 3, 4, 1);
        bothWays(roomWith("a[1:b]c[2:d]"), "only the second", 2, 3, 4, 3);
        bothWays(roomWith("a[1:b]c"), "none for 1 and 9", 2, 10, 4, -1);
        bothWays(roomWith("[1:#\n]"), "none, for the bytes look alike", 1, 2, 4, -1);
        bothWays(roomWith("[1:#a]"), "not where they look alike", 1, 2, 4, 1);
        bothWays(roomWith("abc"), "one and the same", 1, 1, 4, -1);
        bothWays(room(), "no bytes", 1, 10, 2, -1);
    }

    /** "of one who cannot see into the case a byte is seen as 0" */
    private static void differsForThoseWhoSeeNothing() {
        bothWays(room(), "one sees nothing", 5, 6, 1, 0);
        bothWays(room(), "judge and one who sees nothing", 0, 1, 1, 0);
        bothWays(room(), "both see nothing", 1, 5, 1, -1);
        bothWays(room(), "one who sees nothing, twice", 5, 5, 1, -1);
        bothWays(room(), "no bytes to see", 5, 6, 3, -1);
        CourtMail x = room();
        x.trim(0);
        Checks.file(x, 1, "[9:x]");
        bothWays(x, "# and nothing", 6, 5, 4, 0);
    }

    // ---- promise 18

    private static void findTakesItsBounds() {
        c.range(ReadingEdgesTest::roomWithPaper, "find: person", 0, 10, Checks.NO_INDEX, (x, n) -> x.find(n, 1));
        c.range(ReadingEdgesTest::roomWithPaper, "find: document", 0, 3, Checks.NO_INDEX, (x, n) -> x.find(0, n));
        c.refusedIn(ReadingEdgesTest::roomWithPaper, "find: neither", Checks.NO_INDEX, x -> x.find(11, 4));
        c.refusedIn(() -> {
            CourtMail x = room();
            x.trim(0);
            return x;
        }, "find: nobody, with an empty tape", Checks.NO_INDEX, x -> x.find(11, 0));
    }

    private static void finds(String text, String tape, int person, int due) {
        CourtMail x = roomWith(text);
        Checks.write(x, tape);
        long before = x.digest();
        String what = "<" + tape + "> in <" + text + "> for " + person;
        c.due(what, x.find(person, 4), due);
        c.due(what + ", again, for the tape stays", x.find(person, 4), due);
        c.due(what + ", nothing is written", x.digest(), before);
    }

    private static void findFromTheFirstPlaceToTheLast() {
        finds("abc", "a", 0, 0);
        finds("abc", "b", 0, 1);
        finds("abc", "c", 0, 2);
        finds("abc", "ab", 0, 0);
        finds("abc", "bc", 0, 1);
        finds("abc", "ac", 0, -1);
        finds("abcabc", "c", 0, 2);
        finds("abcabd", "abd", 0, 3);
        finds("aaab", "aab", 0, 1);
        finds("aaa", "aa", 0, 0);
        finds("ab\nc", "\nc", 0, 2);
    }

    private static void findWithTheEmptyTapeAndTheLong() {
        finds("abc", "", 0, -1);
        finds("", "", 0, -1);
        finds("", "a", 0, -1);
        finds("abc", "abc", 0, 0);
        finds("abc", "abcd", 0, -1);
        finds("abc", "cd", 0, -1);
        finds("abc", "c" + (char) 0, 0, -1);
        finds("abc", "" + (char) 0, 0, -1);
        finds("abc", "" + (char) ('a' + 128), 0, -1);
        String longest = Checks.times("x", 999) + "y";
        finds(longest, longest, 0, 0);
        finds(longest, "y", 0, 999);
        finds(longest, Checks.times("x", 20) + "y", 0, 979);
        finds(Checks.times("x", 999), Checks.times("x", 1000), 0, -1);
        finds(Checks.times("x", 1000), Checks.times("x", 999), 0, 0);
    }

    private static void findLooksAtWhatIsSeen() {
        finds("a[2:b]c", "abc", 3, 0);
        finds("a[2:b]c", "abc", 2, -1);
        finds("a[2:b]c", "#", 2, 1);
        finds("a[2:b]c", "#", 3, -1);
        finds("{Ab}b", "b", 1, 2);
        finds("{Ab}b", "b", 2, 1);
        finds("{Ab}b", "*", 1, 1);
        finds("{Ab}b", "*", 2, -1);
        CourtMail x = room();
        for (int p = 0; p <= 10; p++) {
            c.due("into the sealed case for " + p, x.find(p, 1), p >= 1 && p <= 5 ? -1 : 1);
        }
        // what is seen as 0 is not there to be found
        for (int zeros = 1; zeros <= 6; zeros += 5) {
            x.trim(0);
            x.feed(0, 0, 0, 0, 0);
            x.trim(zeros);
            c.due("bytes 0", x.find(1, 1), -1);
        }
    }

    // ---- promise 19

    private static void leastTakesItsBounds() {
        c.range(ReadingEdgesTest::roomWithPaper, "least: document", 0, 3, Checks.NO_INDEX, (x, n) -> x.least(n, 0, 0));
        c.range(ReadingEdgesTest::roomWithPaper, "least: from", 0, 7, Checks.NO_ARGUMENT, (x, n) -> x.least(0, n, 7));
        c.range(ReadingEdgesTest::roomWithPaper, "least: from up to 2", 0, 2, Checks.NO_ARGUMENT,
            (x, n) -> x.least(0, n, 2));
        c.range(ReadingEdgesTest::roomWithPaper, "least: to", 0, 7, Checks.NO_ARGUMENT, (x, n) -> x.least(0, 0, n));
        c.range(ReadingEdgesTest::roomWithPaper, "least: to from 3", 3, 7, Checks.NO_ARGUMENT,
            (x, n) -> x.least(0, 3, n));
        c.range(ReadingEdgesTest::roomWithPaper, "least: from and to", 0, 7, Checks.NO_ARGUMENT,
            (x, n) -> x.least(0, n, n));
        c.range(ReadingEdgesTest::roomWithPaper, "least: of no text", 0, 0, Checks.NO_ARGUMENT,
            (x, n) -> x.least(2, n, n));
    }

    private static void leastRefusesInOrder() {
        c.refusedIn(ReadingEdgesTest::room, "no document, from", Checks.NO_INDEX, x -> x.least(4, -1, 0));
        c.refusedIn(ReadingEdgesTest::room, "no document, from above to", Checks.NO_INDEX, x -> x.least(-1, 1, 0));
        c.refusedIn(ReadingEdgesTest::room, "no document, to", Checks.NO_INDEX, x -> x.least(4, 0, 100));
    }

    private static void leastIsJustEnough() {
        String[] texts = {"", "a", "{A}", "{Ab}", "\n", "#", "[1:a]", "[9:a]", "[9:#]", "[9:\n]", "[2:{Ab}]", "a[8:b]c",
            "[3:a[7:b]c]"};
        int[] due = {0, 0, 0, 1, 0, 0, 1, 9, 0, 0, 2, 8, 7};
        for (int i = 0; i < texts.length; i++) {
            CourtMail x = roomWith(texts[i]);
            long before = x.digest();
            c.due("least of <" + texts[i] + ">", x.least(4, 0, x.document(4, 1)), due[i]);
            c.due("nothing is written", x.digest(), before);
            for (int seal = 0; seal <= 9; seal++) {
                x.seal(0, seal);
                int least = x.least(4, 0, x.document(4, 1));
                c.due("least of <" + texts[i] + "> with the seal " + seal, least, Math.max(seal, due[i]));
                c.due("no byte is hidden with it", x.hidden(least + 1, 4), 0);
                c.due("with one less some is, or the case is", least == 0 || least == seal || x.hidden(least, 4) > 0,
                    true);
            }
        }
        CourtMail y = roomWith("[3:a[7:b]c]");
        c.due("the first", y.least(4, 0, 1), 3);
        c.due("the one between", y.least(4, 1, 2), 7);
        c.due("the last", y.least(4, 2, 3), 3);
        c.due("none of them", y.least(4, 1, 1), 0);
    }

    // ---- promises 20 and 21

    private static void lendTakesItsBounds() {
        c.range(ReadingEdgesTest::room, "lend: document", 0, 3, Checks.NO_INDEX, (x, n) -> x.lend(n, 0, 1));
        c.range(ReadingEdgesTest::room, "lend: person", 0, 10, Checks.NO_INDEX, (x, n) -> x.lend(2, n, 1));
        c.range(ReadingEdgesTest::room, "lend: days", 1, 60, Checks.NO_ARGUMENT, (x, n) -> x.lend(0, 0, n));
        for (int days : new int[] {1, 60}) {
            CourtMail x = room();
            c.due("lend for " + days, x.lend(0, 0, days), days);
            x.back(0);
            x.pass(100);
            c.due("lend on the day 100 for " + days, x.lend(0, 0, days), 100 + days);
            c.due("by which day", x.document(0, 6), 100 + days);
            x.pass(days);
            c.due("on this day it is out", x.document(0, 5), 0);
            x.pass(1);
            c.due("behind it it is not", x.document(0, 5), -1);
        }
    }

    private static CourtMail lent() {
        CourtMail x = room();
        x.lend(0, 10, 2);
        return x;
    }

    private static void lendRefusesInOrder() {
        c.outside(ReadingEdgesTest::lent, "lend what is out: days", 1, 60, Checks.NO_ARGUMENT,
            (x, n) -> x.lend(0, 0, n));
        c.outside(ReadingEdgesTest::lent, "lend what is hidden: days", 1, 60, Checks.NO_ARGUMENT,
            (x, n) -> x.lend(1, 1, n));
        c.outside(ReadingEdgesTest::lent, "lend what is out: person", 0, 10, Checks.NO_INDEX,
            (x, n) -> x.lend(0, n, 1));
        c.outside(ReadingEdgesTest::lent, "lend to nobody: days", 1, 60, Checks.NO_INDEX, (x, n) -> x.lend(0, 11, n));
        c.outside(ReadingEdgesTest::lent, "lend no document: days", 1, 60, Checks.NO_INDEX,
            (x, n) -> x.lend(4, 0, n));
    }

    /** "or hidden() of this one and it is not 0" */
    private static void lendNeedsAllBytesSeen() {
        for (int p = 0; p <= 10; p++) {
            int person = p;
            for (int d = 0; d <= 3; d++) {
                int document = d;
                if (room().hidden(p, d) == 0) {
                    CourtMail x = room();
                    c.due("lend " + d + " to " + p, x.lend(d, p, 1), 1);
                    c.due("who has it", x.document(d, 5), p);
                    c.due("the log stays", x.document(d, 7), 0);
                } else {
                    c.refusedIn(ReadingEdgesTest::room, "lend " + d + " to " + p, Checks.NO_STATE,
                        x -> x.lend(document, person, 1));
                }
            }
        }
        c.due("no bytes to one who cannot see into the case", room().lend(3, 1, 1), 1);
        c.due("only # and line ends behind a veil", roomWith("[9:#\n]").lend(4, 1, 1), 1);
        c.refusedIn(() -> roomWith("[9:#\n ]"), "and a blank", Checks.NO_STATE, x -> x.lend(4, 1, 1));
        c.refusedIn(() -> roomWith("{Ab}"), "a mark with the reach 0", Checks.NO_STATE, x -> x.lend(4, 1, 1));
        c.due("a mark with the reach 1", roomWith("{Ab}").lend(4, 2, 1), 1);
    }

    private static void lendNeedsTheOriginalInTheRoom() {
        c.refusedIn(ReadingEdgesTest::lent, "to another", Checks.NO_STATE, x -> x.lend(0, 0, 1));
        c.refusedIn(ReadingEdgesTest::lent, "to the same", Checks.NO_STATE, x -> x.lend(0, 10, 1));
        c.refusedIn(() -> {
            CourtMail x = room();
            x.lend(2, 0, 1);
            return x;
        }, "no bytes, with the person 0", Checks.NO_STATE, x -> x.lend(2, 1, 1));
        CourtMail x = lent();
        c.due("another document", x.lend(1, 10, 60), 60);
        c.due("originals", x.person(10, 5), 2);
        x.back(0);
        c.due("it is in again", x.lend(0, 10, 60), 60);
        x.pass(61);
        c.due("it is brought back", x.document(0, 5), -1);
        c.due("it is in again", x.lend(0, 10, 1), 62);
    }

    private static void backTakesItsBounds() {
        c.range(ReadingEdgesTest::lent, "back", 0, 3, Checks.NO_INDEX, CourtMail::back);
    }

    private static void backBringsOnce() {
        CourtMail x = room();
        long before = x.digest();
        c.due("one that is in the room", x.back(0), -1);
        c.due("nothing is changed", x.digest(), before);
        x.lend(0, 10, 1);
        x.lend(1, 0, 1);
        c.due("the last person", x.back(0), 10);
        c.due("the first person", x.back(1), 0);
        c.due("it is in the room", x.back(1), -1);
        c.due("all is as before", x.digest(), before);
        x.lend(0, 10, 1);
        x.pass(1);
        c.due("on its day", x.back(0), 10);
        x.pass(1);
        c.due("no warning", x.person(10, 4), 0);
        x.lend(0, 10, 1);
        x.pass(2);
        c.due("behind its day it was brought", x.back(0), -1);
        c.due("a warning", x.person(10, 4), 1);
    }
}
