import java.math.BigInteger;
import java.util.function.Supplier;

/** Promises 29 to 36, and "4. Letters": a test for each sentence that names an edge. */
public final class LetterEdgesTest {
    private static final Checks c = new Checks();
    private static final int WAITS = 0;
    private static final int DELIVERED = 1;
    private static final int RETURNED = 2;

    public static void main(String[] args) {
        sendTakesItsBounds();
        sendRefusesInOrder();
        sendUpToTheFortieth();
        letterTakesItsBounds();
        letterTellsTheFirstAndTheLastDay();
        passTakesItsBounds();
        threeForEachClerk();
        noClerkCarriesNothing();
        dueDaysGoAheadOfNumbers();
        sealsAndReachesMeetAtTheDoor();
        returnedLettersStayReturned();
        lettersGoAheadOfTheDayAndTheOriginals();
        originalsMayBeOutOnTheirDay();
        clearanceEndsAtNone();
        arrivesTakesItsBounds();
        arrivesFromNoneToFourteenDays();
        arrivesNeverAtEachEdge();
        arrivesAsTheDaysGo();
        arrivesChangesNothing();
        countTakesItsBounds();
        countTellsEmptyAndFull();
        seesTakesItsBounds();
        seesNobodyWithoutBytes();
        seesTheFirstOfThoseWithTheMost();
        plainFromNoneToAll();
        digestOfTheEmptyRoom();
        digestWrapsAround();
        theLastOfTheCalls();
        c.end();
    }

    /**
     * Cases 0 (seal 0) and 1 (seal 5); a clerk 0 and a judge 1 without clearance, a lawyer 2 with 4, public 3 with 5;
     * a document of each case.
     */
    private static CourtMail room() {
        CourtMail x = roomWithoutClerks();
        x.addPerson(3, 5);
        return x;
    }

    private static CourtMail roomWithoutClerks() {
        CourtMail x = new CourtMail();
        x.open(0);
        x.open(5);
        x.addPerson(0, 0);
        x.addPerson(1, 0);
        x.addPerson(2, 4);
        Checks.file(x, 0, "open");
        Checks.file(x, 1, "sealed");
        return x;
    }

    /** So many letters to the judge, all due at once. */
    private static CourtMail sent(int n) {
        CourtMail x = room();
        for (int i = 0; i < n; i++) {
            x.send(0, 1, 0);
        }
        return x;
    }

    private static void letterIs(CourtMail x, int letter, int... due) {
        for (int what = 0; what <= 4; what++) {
            c.due("letter(" + letter + ", " + what + ")", x.letter(letter, what), due[what]);
        }
    }

    // ---- promises 29 and 30

    private static void sendTakesItsBounds() {
        c.range(LetterEdgesTest::room, "send: document", 0, 1, Checks.NO_INDEX, (x, n) -> x.send(n, 0, 0));
        c.range(LetterEdgesTest::room, "send: person", 0, 3, Checks.NO_INDEX, (x, n) -> x.send(1, n, 30));
        c.range(LetterEdgesTest::room, "send: days", 0, 30, Checks.NO_ARGUMENT, (x, n) -> x.send(0, 0, n));
        for (int days : new int[] {0, 1, 29, 30}) {
            CourtMail x = room();
            c.due("send in " + days, x.send(0, 0, days), 0);
            letterIs(x, 0, 0, 0, days, WAITS, -1);
            CourtMail y = room();
            y.pass(100);
            y.send(0, 0, days);
            c.due("the day on which it is due", y.letter(0, 2), 100 + days);
        }
    }

    private static void sendRefusesInOrder() {
        Supplier<CourtMail> full = () -> sent(40);
        c.refusedIn(full, "a 41st", Checks.NO_STATE, x -> x.send(0, 0, 0));
        c.refusedIn(full, "a 41st in 30 days", Checks.NO_STATE, x -> x.send(1, 3, 30));
        c.outside(full, "a 41st: days", 0, 30, Checks.NO_ARGUMENT, (x, n) -> x.send(0, 0, n));
        c.outside(full, "a 41st: document", 0, 1, Checks.NO_INDEX, (x, n) -> x.send(n, 0, 0));
        c.outside(full, "a 41st: person", 0, 3, Checks.NO_INDEX, (x, n) -> x.send(0, n, 31));
        c.outside(LetterEdgesTest::room, "send no document: days", 0, 30, Checks.NO_INDEX, (x, n) -> x.send(2, 0, n));
        c.outside(LetterEdgesTest::room, "send to nobody: days", 0, 30, Checks.NO_INDEX, (x, n) -> x.send(0, 4, n));
    }

    private static void sendUpToTheFortieth() {
        CourtMail x = room();
        for (int i = 0; i < 40; i++) {
            c.refused("in 31 days before " + i, x, Checks.NO_ARGUMENT, () -> x.send(0, 0, 31));
            c.due("send " + i, x.send(i % 2, i % 4, i % 31), i);
            c.due("letters", x.count(5), i + 1);
            c.due("waiting", x.count(6), i + 1);
        }
        x.pass(14);
        c.due("waiting", x.count(6), 0);
        c.refused("a 41st when none waits", x, Checks.NO_STATE, () -> x.send(0, 0, 0));
    }

    private static void letterTakesItsBounds() {
        c.range(() -> sent(1), "letter of 1", 0, 0, Checks.NO_INDEX, (x, n) -> x.letter(n, 0));
        c.range(() -> sent(40), "letter of 40", 0, 39, Checks.NO_INDEX, (x, n) -> x.letter(n, 4));
        c.range(() -> sent(2), "letter: what", 0, 4, Checks.NO_INDEX, (x, n) -> x.letter(1, n));
        c.refusedIn(LetterEdgesTest::room, "letter of none", Checks.NO_INDEX, x -> x.letter(0, 0));
    }

    private static void letterTellsTheFirstAndTheLastDay() {
        CourtMail x = sent(40);
        letterIs(x, 39, 0, 1, 0, WAITS, -1);
        x.pass(14);
        letterIs(x, 0, 0, 1, 0, DELIVERED, 0);
        letterIs(x, 2, 0, 1, 0, DELIVERED, 0);
        letterIs(x, 3, 0, 1, 0, DELIVERED, 1);
        letterIs(x, 38, 0, 1, 0, DELIVERED, 12);
        letterIs(x, 39, 0, 1, 0, DELIVERED, 13);
        CourtMail y = room();
        y.send(1, 2, 30);
        y.pass(1);
        letterIs(y, 0, 1, 2, 30, RETURNED, 0);
    }

    // ---- promise 31 and the days

    private static void passTakesItsBounds() {
        c.range(() -> {
            CourtMail x = sent(4);
            x.lend(0, 1, 1);
            return x;
        }, "pass", 1, 100, Checks.NO_ARGUMENT, CourtMail::pass);
        CourtMail x = sent(40);
        c.due("pass(1)", x.pass(1), 3);
        c.due("the day", x.count(0), 1);
        c.due("pass(100)", x.pass(100), 37);
        c.due("the day", x.count(0), 101);
        c.due("pass(1) without letters that wait", x.pass(1), 0);
        c.due("pass(1) without letters", room().pass(1), 0);
    }

    private static void threeForEachClerk() {
        for (int clerks = 1; clerks <= 9; clerks++) {
            int a = 3 * clerks;
            for (int letters : new int[] {a - 1, a, a + 1}) {
                CourtMail x = sent(letters);
                for (int i = 1; i < clerks; i++) {
                    x.addPerson(0, 0);
                }
                c.due(letters + " letters, " + clerks + " clerks", x.pass(1), Math.min(a, letters));
                c.due("those that wait", x.count(6), letters - Math.min(a, letters));
            }
        }
        CourtMail x = new CourtMail();
        x.open(0);
        x.file(0);
        for (int i = 0; i < 12; i++) {
            x.addPerson(0, 0);
        }
        for (int i = 0; i < 40; i++) {
            x.send(0, i % 12, 0);
        }
        c.due("twelve clerks", x.pass(1), 36);
        c.due("the last ones", x.pass(1), 4);
        c.due("all have read", x.document(0, 7), 4095);
    }

    /** Neither judges nor lawyers nor the public carry letters. */
    private static void noClerkCarriesNothing() {
        CourtMail x = new CourtMail();
        x.open(0);
        x.file(0);
        for (int i = 0; i < 11; i++) {
            x.addPerson(1 + i % 3, 9);
        }
        x.send(0, 0, 0);
        c.due("no clerk", x.pass(100), 0);
        letterIs(x, 0, 0, 0, 0, WAITS, -1);
        c.due("never", x.arrives(0), -1);
        x.addPerson(0, 0);
        c.due("one clerk", x.arrives(0), 1);
        c.due("one clerk", x.pass(1), 1);
        letterIs(x, 0, 0, 0, 0, DELIVERED, 100);
    }

    private static void dueDaysGoAheadOfNumbers() {
        CourtMail x = room();
        int[] due = {30, 1, 0, 1, 30, 0, 29};
        int[] day = {1, 0, 0, 1, 2, 0, 1, 3, 2, 2};
        for (int days : due) {
            x.send(0, 1, days);
        }
        x.pass(2);
        // sent last and due on the same day as 4: it comes behind it
        x.send(0, 1, 28);
        c.due("its day", x.letter(7, 2), 30);
        c.due("4 goes ahead", x.arrives(4), 1);
        c.due("and 7 with it, while there are no others", x.arrives(7), 1);
        x.send(0, 1, 0);
        x.send(0, 1, 0);
        c.due("4 is the third", x.arrives(4), 1);
        c.due("7 is the fourth", x.arrives(7), 2);
        x.pass(2);
        for (int i = 0; i < day.length; i++) {
            c.due("day of " + i, x.letter(i, 4), day[i]);
        }
    }

    private static void sealsAndReachesMeetAtTheDoor() {
        int[] reach = {0, 9, 4, 5};
        for (int seal = 0; seal <= 9; seal++) {
            for (int p = 0; p <= 3; p++) {
                CourtMail x = room();
                x.seal(1, seal);
                x.send(1, p, 0);
                boolean good = seal <= reach[p];
                String what = "seal " + seal + " for " + p;
                c.due(what + " arrives", x.arrives(0), good ? 1 : -1);
                c.due(what, x.pass(1), good ? 1 : 0);
                letterIs(x, 0, 1, p, 0, good ? DELIVERED : RETURNED, 0);
                c.due(what + " log", x.document(1, 7), good ? 1 << p : 0);
                c.due(what + " delivered", x.count(7), good ? 1 : 0);
                c.due(what + " letters of this one", x.person(p, 7), good ? 1 : 0);
                c.due(what + " no paper", x.count(9), 0);
            }
        }
    }

    private static void returnedLettersStayReturned() {
        CourtMail x = room();
        for (int i = 0; i < 3; i++) {
            x.send(1, 2, 0);
        }
        x.send(1, 1, 0);
        c.due("those that are returned are carried out too", x.pass(1), 0);
        c.due("the fourth waits", x.letter(3, 3), WAITS);
        x.seal(1, 0);
        c.due("the fourth", x.pass(2), 1);
        for (int i = 0; i < 3; i++) {
            letterIs(x, i, 1, 2, 0, RETURNED, 0);
            c.due("arrives", x.arrives(i), -1);
        }
        c.due("waiting", x.count(6), 0);
        c.due("delivered", x.count(7), 1);
    }

    /** The clearance falls in the third step of a day, behind its letters. */
    private static void lettersGoAheadOfTheDayAndTheOriginals() {
        CourtMail x = room();
        x.seal(0, 4);
        for (int i = 0; i < 2; i++) {
            Checks.file(x, 0, "more");
        }
        for (int d : new int[] {0, 2, 3}) {
            x.lend(d, 2, 1);
        }
        for (int i = 0; i < 9; i++) {
            x.send(0, 2, i);
        }
        int[] arrives = {1, 1, 1, 2, 2, 2, -1, -1, -1};
        for (int i = 0; i < 9; i++) {
            c.due("arrives(" + i + ")", x.arrives(i), arrives[i]);
        }
        c.due("the first day", x.pass(1), 3);
        c.due("clearance", x.person(2, 1), 4);
        c.due("the day at whose end they are late", x.pass(1), 3);
        c.due("clearance", x.person(2, 1), 3);
        c.due("the day behind", x.pass(1), 0);
        letterIs(x, 6, 0, 2, 6, RETURNED, 2);
    }

    private static void originalsMayBeOutOnTheirDay() {
        for (int days : new int[] {1, 2, 59, 60}) {
            CourtMail x = room();
            x.lend(0, 2, days);
            x.pass(days);
            c.due("on the day " + days, x.document(0, 5), 2);
            c.due("no warning", x.person(2, 4), 0);
            x.pass(1);
            c.due("on the day behind " + days, x.document(0, 5), -1);
            c.due("by no day", x.document(0, 6), -1);
            c.due("a warning", x.person(2, 4), 1);
            c.due("out", x.count(11), 0);
            x.pass(1);
            c.due("once", x.person(2, 4), 1);
        }
    }

    private static void clearanceEndsAtNone() {
        for (int clearance = 0; clearance <= 9; clearance += 3) {
            CourtMail x = new CourtMail();
            x.open(0);
            x.addPerson(3, clearance);
            for (int i = 0; i < 24; i++) {
                x.file(0);
                x.lend(i, 0, 1);
            }
            x.pass(2);
            c.due("24 warnings from " + clearance, x.person(0, 1), Math.max(0, clearance - 8));
            c.due("none are left", x.person(0, 4), 0);
        }
        CourtMail x = room();
        x.lend(0, 1, 1);
        x.lend(1, 1, 1);
        x.pass(2);
        c.due("two warnings", x.person(1, 4), 2);
        x.lend(0, 1, 1);
        x.pass(1);
        c.due("two warnings", x.person(1, 4), 2);
        x.pass(1);
        c.due("the third", x.person(1, 4), 0);
        c.due("a judge without clearance", x.person(1, 1), 0);
        c.due("sees all the same", x.person(1, 3), 3);
    }

    // ---- promise 32

    private static void arrivesTakesItsBounds() {
        c.range(() -> sent(1), "arrives of 1", 0, 0, Checks.NO_INDEX, CourtMail::arrives);
        c.range(() -> sent(40), "arrives of 40", 0, 39, Checks.NO_INDEX, CourtMail::arrives);
        c.refusedIn(LetterEdgesTest::room, "arrives of none", Checks.NO_INDEX, x -> x.arrives(0));
    }

    private static void arrivesFromNoneToFourteenDays() {
        CourtMail x = sent(40);
        for (int i = 0; i < 40; i++) {
            c.due("arrives(" + i + ")", x.arrives(i), i / 3 + 1);
        }
        for (int day = 1; day <= 14; day++) {
            x.pass(1);
            for (int i = 0; i < 40; i += 13) {
                c.due("arrives(" + i + ") on the day " + day, x.arrives(i), Math.max(0, i / 3 + 1 - day));
            }
        }
        CourtMail y = room();
        y.send(0, 1, 30);
        c.due("ahead of its due day", y.arrives(0), 1);
    }

    private static void arrivesNeverAtEachEdge() {
        CourtMail x = roomWithoutClerks();
        x.send(1, 2, 0);
        c.due("a seal one above the reach", x.arrives(0), -1);
        x.seal(1, 4);
        c.due("a seal as great", x.arrives(0), 1);
        x.seal(1, 6);
        x.attach(2, 1);
        c.due("as great, attached", x.arrives(0), 1);
        x.seal(1, 7);
        c.due("one above, attached", x.arrives(0), -1);
        x.pass(1);
        x.seal(1, 0);
        c.due("it was returned", x.arrives(0), -1);
        x.send(1, 2, 0);
        x.pass(1);
        c.due("it was delivered", x.arrives(1), 0);
        x.seal(1, 9);
        c.due("it was delivered, whatever the seal", x.arrives(1), 0);
    }

    /** "behind how many days it is delivered, if nothing is done": the days are passed and looked at, for many rooms. */
    private static void arrivesAsTheDaysGo() {
        for (int originals = 0; originals <= 7; originals++) {
            for (int warned = 0; warned <= 2; warned++) {
                for (int seal = 0; seal <= 5; seal++) {
                    CourtMail x = lateRoom(originals, warned, seal);
                    int[] told = new int[20];
                    for (int i = 0; i < 20; i++) {
                        told[i] = x.arrives(i);
                    }
                    int from = x.count(0);
                    x.pass(7);
                    for (int i = 0; i < 20; i++) {
                        int due = x.letter(i, 3) == DELIVERED ? x.letter(i, 4) - from + 1 : -1;
                        c.due("letter " + i + ", " + originals + " originals, " + warned + " warnings, seal " + seal,
                            told[i], due);
                    }
                }
            }
        }
    }

    /** Twenty letters to one with the clearance 2 who has originals for 1 to 3 days, and so many warnings. */
    private static CourtMail lateRoom(int originals, int warned, int seal) {
        CourtMail x = new CourtMail();
        x.open(0);
        x.addPerson(0, 9);
        x.addPerson(2, 2);
        for (int i = 0; i < 8; i++) {
            x.file(0);
        }
        for (int i = 0; i < warned; i++) {
            x.lend(7, 1, 1);
            x.pass(2);
        }
        for (int i = 0; i < originals; i++) {
            x.lend(i, 1, 1 + i % 3);
        }
        x.lend(7, 0, 1);
        x.seal(0, seal);
        if (seal > 2) {
            x.attach(1, 0);
        }
        for (int i = 0; i < 20; i++) {
            x.send(0, 1, i * 7 % 5);
        }
        return x;
    }

    private static void arrivesChangesNothing() {
        CourtMail x = lateRoom(6, 2, 2);
        for (int i = 0; i < 20; i++) {
            x.arrives(i);
        }
        c.due("told later", Later.told(x), Later.told(lateRoom(6, 2, 2)));
    }

    // ---- promise 33

    private static void countTakesItsBounds() {
        c.range(LetterEdgesTest::room, "count", 0, 11, Checks.NO_INDEX, CourtMail::count);
        c.range(CourtMail::new, "count of a new room", 0, 11, Checks.NO_INDEX, CourtMail::count);
    }

    private static void counts(CourtMail x, int... due) {
        for (int what = 0; what <= 11; what++) {
            c.due("count(" + what + ")", x.count(what), due[what]);
        }
    }

    private static void countTellsEmptyAndFull() {
        counts(new CourtMail(), 0, 0, 0, 0, 0, 0, 0, 0, 0, 0, 0, 0);
        CourtMail x = new CourtMail();
        for (int i = 0; i < 8; i++) {
            x.open(0);
        }
        for (int i = 0; i < 12; i++) {
            x.addPerson(i == 0 ? 0 : 1, 0);
        }
        for (int i = 0; i < 20; i++) {
            x.takeIn(0);
            x.lose(i);
        }
        Checks.file(x, 0, Checks.times("@0", 500));
        for (int i = 1; i < 24; i++) {
            x.file(0);
        }
        for (int i = 0; i < 24; i++) {
            x.lend(i, 1, 60);
        }
        x.read(1, 0);
        Checks.write(x, Checks.times("x", 1000));
        for (int i = 0; i < 40; i++) {
            x.send(0, 1, 0);
        }
        counts(x, 0, 8, 12, 24, 20, 40, 40, 0, 1000, 2500, 20, 24);
        x.pass(60);
        counts(x, 60, 8, 12, 24, 20, 40, 0, 40, 1000, 2500, 20, 24);
        x.pass(1);
        counts(x, 61, 8, 12, 24, 20, 40, 0, 40, 1000, 2500, 20, 0);
    }

    // ---- promise 34

    private static void seesTakesItsBounds() {
        c.range(LetterEdgesTest::room, "sees", 0, 1, Checks.NO_INDEX, CourtMail::sees);
        c.range(() -> {
            CourtMail x = new CourtMail();
            for (int i = 0; i < 8; i++) {
                x.open(i);
            }
            return x;
        }, "sees of 8", 0, 7, Checks.NO_INDEX, CourtMail::sees);
    }

    private static void seesNobodyWithoutBytes() {
        CourtMail x = new CourtMail();
        x.open(0);
        c.due("nobody there", x.sees(0), -1);
        x.addPerson(0, 9);
        x.addPerson(1, 9);
        x.addPerson(2, 9);
        c.due("no documents", x.sees(0), -1);
        x.file(0);
        c.due("no bytes", x.sees(0), -1);
        x.open(0);
        Checks.file(x, 1, "other");
        c.due("bytes of another case", x.sees(0), -1);
        Checks.file(x, 0, "[9:a]");
        c.due("a byte", x.sees(0), 2);
        x.veil(2, 0, 1, 9);
        CourtMail y = new CourtMail();
        y.open(0);
        y.addPerson(0, 9);
        y.addPerson(1, 9);
        Checks.file(y, 0, "ab");
        c.due("only a clerk and a judge", y.sees(0), -1);
        y.addPerson(3, 0);
        c.due("and one of the public", y.sees(0), 2);
        y.veil(0, 0, 2, 1);
        c.due("who sees no byte", y.sees(0), -1);
        y.veil(0, 1, 2, 0);
        c.due("who sees one", y.sees(0), 2);
        y.seal(0, 1);
        c.due("who cannot see into the case", y.sees(0), -1);
    }

    private static void seesTheFirstOfThoseWithTheMost() {
        CourtMail x = new CourtMail();
        x.open(0);
        for (int i = 0; i < 12; i++) {
            x.addPerson(2 + i % 2, 1);
        }
        Checks.file(x, 0, "a[2:b]");
        Checks.file(x, 0, "c[3:de]");
        long before = x.digest();
        c.due("of twelve alike the first", x.sees(0), 0);
        c.due("nothing is written", x.digest(), before);
        x.attach(11, 0);
        c.due("the last has the most", x.sees(0), 11);
        x.attach(5, 0);
        c.due("of two alike the first", x.sees(0), 5);
        x.attach(0, 0);
        c.due("of three alike the first", x.sees(0), 0);
        c.due("as hidden() tells", x.hidden(0, 0) + x.hidden(0, 1), 0);
    }

    // ---- promise 35

    private static void plainFromNoneToAll() {
        CourtMail x = new CourtMail();
        c.due("no documents", x.plain(), 1.0);
        x.open(9);
        x.file(0);
        c.due("no bytes", x.plain(), 1.0);
        Checks.file(x, 0, "a");
        c.due("all of one", x.plain(), 1.0);
        x.veil(1, 0, 1, 1);
        c.due("none of one", x.plain(), 0.0);
        Checks.file(x, 0, "bc");
        c.due("two of three", x.plain(), 2.0 / 3.0);
        x.veil(2, 1, 2, 9);
        c.due("one of three", x.plain(), 1.0 / 3.0);
        x.takeIn(0);
        Checks.file(x, 0, Checks.times("@0", 500));
        c.due("2501 of 2503", x.plain(), 2501.0 / 2503.0);
        for (int i = 0; i < 20; i++) {
            Checks.write(x, "x");
            x.file(0);
        }
        c.due("24 documents", x.plain(), 2521.0 / 2523.0);
        CourtMail y = new CourtMail();
        y.open(0);
        Checks.file(y, 0, "[1:ab]c");
        c.due("one of three, in the first document", y.plain(), 1.0 / 3.0);
    }

    // ---- promise 36

    private static final BigInteger AROUND = BigInteger.ONE.shiftLeft(64);

    private static void digestOfTheEmptyRoom() {
        CourtMail x = new CourtMail();
        BigInteger d = BigInteger.valueOf(653);
        for (int i = 0; i < 12; i++) {
            d = d.multiply(BigInteger.valueOf(31));
        }
        c.due("it has gone round already", d.bitLength() > 64, true);
        c.due("digest", x.digest(), d.mod(AROUND).longValue());
    }

    /** The same numbers without any wrapping, and the rest by 2^64 only at the end; some of them are below zero. */
    private static void digestWrapsAround() {
        CourtMail x = room();
        x.veil(1, 0, 2, 9);
        x.veil(1, 5, 6, 1);
        x.takeIn(1);
        x.takeIn(0);
        x.lose(0);
        x.hand(1, 2);
        x.lend(0, 2, 1);
        x.send(0, 1, 30);
        x.send(1, 2, 0);
        x.read(1, 1);
        BigInteger d = told(x);
        c.due("it goes round", d.bitLength() > 64, true);
        c.due("digest", x.digest(), d.mod(AROUND).longValue());
        c.due("digest again, for it changes nothing", x.digest(), d.mod(AROUND).longValue());
        x.pass(3);
        c.due("digest behind days", x.digest(), told(x).mod(AROUND).longValue());
    }

    private static BigInteger told(CourtMail x) {
        BigInteger[] d = {BigInteger.valueOf(653)};
        for (int what = 0; what <= 11; what++) {
            add(d, x.count(what));
        }
        for (int i = 0; i < 5 * x.count(1); i++) {
            add(d, x.caseOf(i / 5, i % 5));
        }
        for (int i = 0; i < 8 * x.count(2); i++) {
            add(d, x.person(i / 8, i % 8));
        }
        String[] texts = {"open", "sealed"};
        int[][] levels = {{0, 0, 0, 0}, {9, 9, 0, 0, 0, 1}};
        for (int i = 0; i < texts.length; i++) {
            for (int what = 0; what <= 7; what++) {
                add(d, x.document(i, what));
            }
            for (int k = 0; k < texts[i].length(); k++) {
                add(d, texts[i].charAt(k));
                add(d, levels[i][k]);
            }
        }
        for (int i = 0; i < x.count(4); i++) {
            for (int what = 0; what <= 6; what++) {
                add(d, x.exhibit(i, what));
            }
            for (int k = 0; k < 4 * x.exhibit(i, 3); k++) {
                add(d, x.link(i, k / 4, k % 4));
            }
        }
        for (int i = 0; i < 5 * x.count(5); i++) {
            add(d, x.letter(i / 5, i % 5));
        }
        for (int i = 0; i < x.count(9); i++) {
            add(d, x.byteAt(i));
        }
        return d[0];
    }

    private static void add(BigInteger[] d, int n) {
        d[0] = d[0].multiply(BigInteger.valueOf(31)).add(BigInteger.valueOf(n));
    }

    /** "at most 512 calls": the latest day there can be, and all that is told by it. */
    private static void theLastOfTheCalls() {
        CourtMail x = new CourtMail();
        x.open(9);
        x.addPerson(1, 0);
        x.addPerson(0, 0);
        x.file(0);
        x.takeIn(0);
        x.hand(0, 0);
        for (int call = 7; call <= 503; call++) {
            x.pass(100);
        }
        c.due("504: lend", x.lend(0, 0, 60), 49760);
        c.due("505: send", x.send(0, 0, 30), 0);
        c.due("506: when it is due", x.letter(0, 2), 49730);
        c.due("507: unseal", x.unseal(0), (1000 * 31 + 49700) % 10007);
        c.due("508: the day of its link", x.link(0, 1, 0), 49700);
        c.due("509: arrives", x.arrives(0), 1);
        c.due("510: pass", x.pass(100), 1);
        c.due("511: warnings", x.person(0, 4), 1);
        c.due("512: the day", x.count(0), 49800);
    }
}
