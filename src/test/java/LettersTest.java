/** Promises 29 to 36: send, letter, pass, arrives, count, sees, plain, digest. */
public final class LettersTest {
    private static final Checks c = new Checks();

    public static void main(String[] args) {
        sendNumbers();
        sendRefuses();
        letterTells();
        letterRefuses();
        passDelivers();
        passCarriesInOrder();
        passWithoutClerks();
        passReturns();
        passCallsBack();
        passWarns();
        passSeesTheClearanceOfTheDay();
        passRefuses();
        arrivesTells();
        arrivesWithWarnings();
        arrivesRefuses();
        countTells();
        seesLooks();
        plainTells();
        digestTells();
        c.end();
    }

    /** Cases 0 (seal 0) and 1 (seal 5); a clerk 0, a judge 1, a lawyer 2, public 3; a document of each case. */
    private static CourtMail room() {
        CourtMail x = new CourtMail();
        x.open(0);
        x.open(5);
        x.addPerson(0, 0);
        x.addPerson(1, 0);
        x.addPerson(2, 3);
        x.addPerson(3, 4);
        Checks.file(x, 0, "open");
        Checks.file(x, 1, "sealed");
        return x;
    }

    private static void isLetter(CourtMail x, int letter, int... due) {
        for (int what = 0; what <= 4; what++) {
            c.due("letter(" + letter + ", " + what + ")", x.letter(letter, what), due[what]);
        }
    }

    private static void sendNumbers() {
        CourtMail x = room();
        for (int i = 0; i < 40; i++) {
            c.due("send " + i, x.send(i % 2, i % 4, i % 31), i);
        }
        c.due("letters", x.count(5), 40);
        c.refused("a 41st", x, Checks.NO_STATE, () -> x.send(0, 0, 0));
        c.refused("a 41st in 31 days", x, Checks.NO_ARGUMENT, () -> x.send(0, 0, 31));
        c.refused("a 41st to nobody", x, Checks.NO_INDEX, () -> x.send(0, 4, 31));
        x.pass(100);
        c.refused("a 41st behind all", x, Checks.NO_STATE, () -> x.send(0, 0, 0));
    }

    private static void sendRefuses() {
        CourtMail x = room();
        c.refused("send(-1, 0, 0)", x, Checks.NO_INDEX, () -> x.send(-1, 0, 0));
        c.refused("send(2, 0, 0)", x, Checks.NO_INDEX, () -> x.send(2, 0, 0));
        c.refused("send(0, -1, 0)", x, Checks.NO_INDEX, () -> x.send(0, -1, 0));
        c.refused("send(0, 4, 0)", x, Checks.NO_INDEX, () -> x.send(0, 4, 0));
        c.refused("send(0, 4, 31)", x, Checks.NO_INDEX, () -> x.send(0, 4, 31));
        c.refused("send(0, 0, -1)", x, Checks.NO_ARGUMENT, () -> x.send(0, 0, -1));
        c.refused("send(0, 0, 31)", x, Checks.NO_ARGUMENT, () -> x.send(0, 0, 31));
        c.due("in 30 days", x.send(0, 0, 30), 0);
    }

    private static void letterTells() {
        CourtMail x = room();
        x.pass(4);
        x.send(1, 1, 6);
        x.send(1, 3, 0);
        isLetter(x, 0, 1, 1, 10, 0, -1);
        isLetter(x, 1, 1, 3, 4, 0, -1);
        x.pass(2);
        isLetter(x, 0, 1, 1, 10, 1, 4);
        isLetter(x, 1, 1, 3, 4, 2, 4);
        c.due("read by the judge", x.document(1, 7), 2);
        c.due("no paper of it", x.count(9), 0);
    }

    private static void letterRefuses() {
        CourtMail x = room();
        c.refused("letter(0, 0) without letters", x, Checks.NO_INDEX, () -> x.letter(0, 0));
        x.send(0, 0, 0);
        c.refused("letter(-1, 0)", x, Checks.NO_INDEX, () -> x.letter(-1, 0));
        c.refused("letter(1, 0)", x, Checks.NO_INDEX, () -> x.letter(1, 0));
        c.refused("letter(0, -1)", x, Checks.NO_INDEX, () -> x.letter(0, -1));
        c.refused("letter(0, 5)", x, Checks.NO_INDEX, () -> x.letter(0, 5));
    }

    private static void passDelivers() {
        CourtMail x = room();
        c.due("a day without letters", x.pass(1), 0);
        c.due("the day", x.count(0), 1);
        for (int i = 0; i < 7; i++) {
            x.send(0, 2, 0);
        }
        c.due("three of seven", x.pass(1), 3);
        c.due("waiting", x.count(6), 4);
        c.due("four in two days", x.pass(2), 4);
        c.due("the day", x.count(0), 4);
        isLetter(x, 3, 0, 2, 1, 1, 2);
        isLetter(x, 6, 0, 2, 1, 1, 3);
        x.addPerson(0, 9);
        for (int i = 0; i < 7; i++) {
            x.send(0, 2, 0);
        }
        c.due("six with two clerks", x.pass(1), 6);
        c.due("a hundred days", x.pass(100), 1);
        c.due("the day", x.count(0), 105);
    }

    private static void passCarriesInOrder() {
        CourtMail x = room();
        int[] due = {9, 3, 3, 0, 9, 3, 2};
        for (int days : due) {
            x.send(0, 1, days);
        }
        x.pass(1);
        int[] first = {-1, 0, -1, 0, -1, -1, 0};
        for (int i = 0; i < due.length; i++) {
            c.due("first day: " + i, x.letter(i, 4), first[i]);
        }
        // one that is sent on a later day can still be due the first
        x.send(0, 1, 0);
        x.pass(1);
        int[] second = {-1, 0, 1, 0, -1, 1, 0, 1};
        for (int i = 0; i < second.length; i++) {
            c.due("second day: " + i, x.letter(i, 4), second[i]);
        }
        x.pass(1);
        c.due("third day: 0", x.letter(0, 4), 2);
        c.due("third day: 4", x.letter(4, 4), 2);
    }

    private static void passWithoutClerks() {
        CourtMail x = new CourtMail();
        x.open(0);
        x.addPerson(1, 9);
        x.file(0);
        x.send(0, 0, 0);
        c.due("no clerk carries", x.pass(100), 0);
        c.due("it waits", x.letter(0, 3), 0);
        c.due("it never arrives", x.arrives(0), -1);
        x.addPerson(0, 0);
        c.due("with a clerk it does", x.arrives(0), 1);
        c.due("with a clerk it does", x.pass(1), 1);
    }

    private static void passReturns() {
        CourtMail x = room();
        x.send(1, 2, 0);
        x.send(1, 3, 0);
        x.send(1, 1, 0);
        x.send(1, 1, 1);
        c.due("one of three", x.pass(1), 1);
        isLetter(x, 0, 1, 2, 0, 2, 0);
        isLetter(x, 1, 1, 3, 0, 2, 0);
        c.due("a returned one needs a clerk too", x.letter(3, 3), 0);
        c.due("log", x.document(1, 7), 2);
        c.due("delivered", x.count(7), 1);
        c.due("waiting", x.count(6), 1);
        x.attach(2, 1);
        x.attach(3, 1);
        x.pass(1);
        c.due("returned stays returned", x.letter(0, 3), 2);
        x.send(1, 2, 0);
        c.due("attached now", x.pass(1), 1);
        c.due("log", x.document(1, 7), 6);
    }

    private static void passCallsBack() {
        CourtMail x = room();
        x.lend(0, 2, 2);
        x.lend(1, 1, 3);
        x.pass(2);
        c.due("on its day it may be out", x.document(0, 5), 2);
        c.due("no warning", x.person(2, 4), 0);
        x.pass(1);
        c.due("behind its day it is back", x.document(0, 5), -1);
        c.due("by no day", x.document(0, 6), -1);
        c.due("a warning", x.person(2, 4), 1);
        c.due("the other is out", x.document(1, 5), 1);
        x.pass(1);
        c.due("the other is back", x.document(1, 5), -1);
        c.due("a warning", x.person(1, 4), 1);
        x.pass(5);
        c.due("one warning each", x.person(2, 4), 1);
    }

    private static void passWarns() {
        CourtMail x = room();
        x.addPerson(3, 1);
        for (int i = 0; i < 5; i++) {
            Checks.file(x, 0, "more");
        }
        for (int d = 2; d < 7; d++) {
            x.lend(d, 4, 1);
        }
        c.due("originals", x.person(4, 5), 5);
        x.pass(2);
        c.due("clearance behind five", x.person(4, 1), 0);
        c.due("warnings behind five", x.person(4, 4), 2);
        c.due("originals", x.person(4, 5), 0);
        x.lend(2, 4, 1);
        x.pass(2);
        c.due("clearance stays 0", x.person(4, 1), 0);
        c.due("no warnings again", x.person(4, 4), 0);
        // six at once take two of the clearance
        x.lend(0, 3, 1);
        for (int d = 2; d < 7; d++) {
            x.lend(d, 3, 1);
        }
        x.pass(2);
        c.due("two less", x.person(3, 1), 2);
        c.due("no warnings", x.person(3, 4), 0);
        // a judge's clearance goes too, but not the reach
        for (int d = 2; d < 5; d++) {
            x.lend(d, 1, 1);
        }
        x.seal(1, 9);
        x.pass(2);
        c.due("a judge's clearance", x.person(1, 1), 0);
        c.due("a judge sees", x.person(1, 3), 3);
    }

    /** Four letters of a case with the seal of the lawyer's clearance, who has three originals. */
    private static CourtMail lateOriginals() {
        CourtMail x = room();
        x.seal(0, 3);
        Checks.file(x, 0, "a");
        Checks.file(x, 0, "b");
        x.lend(0, 2, 1);
        x.lend(2, 2, 1);
        x.lend(3, 2, 1);
        for (int i = 0; i < 8; i++) {
            x.send(0, 2, 0);
        }
        return x;
    }

    private static void passSeesTheClearanceOfTheDay() {
        CourtMail x = lateOriginals();
        c.due("before the third day", x.pass(2), 6);
        c.due("the clearance is less now", x.person(2, 1), 2);
        c.due("on the third day", x.pass(1), 0);
        c.due("returned", x.letter(6, 3), 2);
        c.due("on day 2", x.letter(7, 4), 2);
    }

    private static void passRefuses() {
        CourtMail x = room();
        x.send(0, 0, 0);
        c.refused("pass(0)", x, Checks.NO_ARGUMENT, () -> x.pass(0));
        c.refused("pass(-1)", x, Checks.NO_ARGUMENT, () -> x.pass(-1));
        c.refused("pass(101)", x, Checks.NO_ARGUMENT, () -> x.pass(101));
        c.refused("pass(MAX)", x, Checks.NO_ARGUMENT, () -> x.pass(Integer.MAX_VALUE));
        c.due("pass(100)", x.pass(100), 1);
    }

    private static void arrivesTells() {
        CourtMail x = room();
        int[] due = {9, 3, 3, 0, 9, 3, 2};
        int[] days = {3, 2, 2, 1, 3, 2, 1};
        for (int d : due) {
            x.send(0, 1, d);
        }
        x.send(1, 2, 1);
        long before = x.digest();
        for (int i = 0; i < days.length; i++) {
            c.due("arrives(" + i + ")", x.arrives(i), days[i]);
        }
        c.due("one that will be returned", x.arrives(7), -1);
        c.due("nothing is changed", x.digest(), before);
        x.pass(1);
        c.due("one that was delivered", x.arrives(3), 0);
        c.due("one that was returned", x.arrives(7), -1);
        c.due("one that waits", x.arrives(0), 2);
        x.attach(2, 1);
        c.due("returned stays returned", x.arrives(7), -1);
        x.addPerson(0, 0);
        c.due("two clerks are faster", x.arrives(0), 1);
    }

    private static void arrivesWithWarnings() {
        CourtMail x = lateOriginals();
        long before = x.digest();
        for (int i = 0; i < 8; i++) {
            c.due("arrives(" + i + ")", x.arrives(i), i < 3 ? 1 : i < 6 ? 2 : -1);
        }
        c.due("nothing is changed", x.digest(), before);
        x.back(3);
        c.due("two late ones do no harm", x.arrives(6), 3);
        x.lend(3, 2, 2);
        c.due("the third is late later", x.arrives(6), 3);
        x.back(3);
        x.lend(3, 2, 1);
        c.due("three late ones", x.arrives(6), -1);
        x.attach(2, 0);
        c.due("three late ones, attached", x.arrives(6), 3);
        c.due("of another case", x.arrives(0), 1);

        // a clearance of 1 comes down to 0, and one of 0 stays
        for (int clearance = 0; clearance <= 1; clearance++) {
            CourtMail y = new CourtMail();
            y.open(0);
            y.addPerson(0, clearance);
            for (int d = 0; d < 3; d++) {
                Checks.file(y, 0, "a");
                y.lend(d, 0, 1);
            }
            for (int i = 0; i < 7; i++) {
                y.send(0, 0, 0);
            }
            for (int attached = 0; attached <= 1; attached++) {
                c.due("with no clearance", y.arrives(6), 3);
                y.seal(0, 2 * attached + 1);
                c.due("with no clearance, a seal above", y.arrives(6), -1);
                y.attach(0, 0);
                y.seal(0, 2);
            }
        }
    }

    private static void arrivesRefuses() {
        CourtMail x = room();
        c.refused("arrives(0) without letters", x, Checks.NO_INDEX, () -> x.arrives(0));
        x.send(0, 0, 0);
        c.refused("arrives(-1)", x, Checks.NO_INDEX, () -> x.arrives(-1));
        c.refused("arrives(1)", x, Checks.NO_INDEX, () -> x.arrives(1));
    }

    private static void countTells() {
        CourtMail x = room();
        x.open(1);
        for (int i = 0; i < 5; i++) {
            x.send(0, 1, 0);
        }
        x.send(1, 2, 0);
        Checks.file(x, 0, "more");
        x.pass(2);
        x.send(0, 0, 4);
        x.send(0, 0, 4);
        for (int i = 0; i < 6; i++) {
            x.takeIn(0);
        }
        x.lose(3);
        x.lose(4);
        x.found(3, -1);
        x.lose(5);
        x.lend(0, 0, 1);
        x.lend(1, 1, 1);
        x.lend(2, 1, 1);
        x.read(1, 1);
        Checks.write(x, "seven b");
        int[] due = {2, 3, 4, 3, 6, 8, 2, 5, 7, 6, 2, 3};
        for (int what = 0; what <= 11; what++) {
            c.due("count(" + what + ")", x.count(what), due[what]);
        }
        c.refused("count(-1)", x, Checks.NO_INDEX, () -> x.count(-1));
        c.refused("count(12)", x, Checks.NO_INDEX, () -> x.count(12));
    }

    private static void seesLooks() {
        CourtMail x = new CourtMail();
        c.refused("sees(0) without cases", x, Checks.NO_INDEX, () -> x.sees(0));
        x.open(0);
        x.open(0);
        x.addPerson(1, 9);
        x.addPerson(0, 9);
        c.due("without documents", x.sees(0), -1);
        Checks.file(x, 0, "ab[2:cde]");
        c.due("without lawyers and public", x.sees(0), -1);
        x.addPerson(3, 1);
        c.due("public", x.sees(0), 2);
        x.addPerson(2, 1);
        c.due("of two the smaller number", x.sees(0), 2);
        x.addPerson(2, 2);
        c.due("the most", x.sees(0), 4);
        Checks.file(x, 0, "[3:fghi]");
        x.attach(3, 0);
        c.due("over all documents", x.sees(0), 3);
        x.seal(0, 3);
        c.due("the only one who sees into it", x.sees(0), 3);
        x.seal(0, 4);
        c.due("none sees into it", x.sees(0), -1);
        Checks.file(x, 1, "[9:all]");
        c.due("none sees a byte", x.sees(1), -1);
        Checks.file(x, 1, "[9:#]");
        c.due("a sign that stays a sign", x.sees(1), 2);
        c.due("nothing is written", x.document(3, 7), 0);
        CourtMail y = new CourtMail();
        y.open(0);
        y.addPerson(2, 0);
        y.addPerson(1, 0);
        y.addPerson(3, 0);
        Checks.file(y, 0, "a");
        c.due("the first", y.sees(0), 0);
        c.refused("sees(-1)", x, Checks.NO_INDEX, () -> x.sees(-1));
        c.refused("sees(2)", x, Checks.NO_INDEX, () -> x.sees(2));
    }

    private static void plainTells() {
        CourtMail x = new CourtMail();
        x.open(9);
        c.due("no documents", x.plain(), 1.0);
        x.file(0);
        c.due("no bytes", x.plain(), 1.0);
        CourtMail y = new CourtMail();
        y.open(9);
        Checks.file(y, 0, "[1:a]");
        c.due("none of one", y.plain(), 0.0);
        Checks.file(y, 0, "b");
        c.due("one of two", y.plain(), 0.5);
        Checks.file(x, 0, "[1:abc]");
        c.due("none", x.plain(), 0.0);
        Checks.file(x, 0, "abcd");
        c.due("four of seven", x.plain(), 4.0 / 7.0);
        x.veil(1, 0, 3, 0);
        c.due("all", x.plain(), 1.0);
        x.veil(2, 0, 1, 9);
        c.due("six of seven", x.plain(), 6.0 / 7.0);
    }

    private static void digestTells() {
        CourtMail x = roomToDigest();
        c.due("digest", x.digest(), told(x));
        c.due("digest again", x.digest(), told(x));
        CourtMail y = roomToDigest();
        y.read(3, 2);
        c.due("digest of another paper", y.digest(), told(y));
        CourtMail z = roomToDigest();
        z.veil(0, 0, 2, 5);
        c.due("digest of other veils", z.digest(), told(z));
    }

    private static CourtMail roomToDigest() {
        CourtMail x = room();
        Checks.file(x, 0, "a[3:{Bo}]\n");
        x.takeIn(0);
        x.takeIn(1);
        Checks.file(x, 1, "@1[2:x]");
        x.hand(1, 1);
        x.unseal(1);
        x.lose(1);
        x.found(1, 3);
        x.lend(0, 2, 2);
        x.send(1, 2, 3);
        x.send(0, 2, 3);
        x.pass(3);
        x.send(3, 1, 4);
        x.attach(2, 1);
        Checks.write(x, "tape");
        x.read(1, 2);
        return x;
    }

    /** The checksum, from what the room tells and from the texts and levels of roomToDigest(). */
    private static long told(CourtMail x) {
        long d = 653;
        for (int what = 0; what <= 11; what++) {
            d = d * 31 + x.count(what);
        }
        for (int i = 0; i < x.count(1); i++) {
            for (int what = 0; what <= 4; what++) {
                d = d * 31 + x.caseOf(i, what);
            }
        }
        for (int i = 0; i < x.count(2); i++) {
            for (int what = 0; what <= 7; what++) {
                d = d * 31 + x.person(i, what);
            }
        }
        String[] texts = {"open", "sealed", "aBo\n", "Ex. 1x"};
        int[][] levels = {new int[4], new int[6], {0, 3, 3, 0}, {0, 0, 0, 0, 0, 2}};
        if (x.document(0, 3) == 5) {
            levels[0] = new int[] {5, 5, 0, 0};
        }
        for (int i = 0; i < x.count(3); i++) {
            for (int what = 0; what <= 7; what++) {
                d = d * 31 + x.document(i, what);
            }
            for (int k = 0; k < texts[i].length(); k++) {
                d = d * 31 + texts[i].charAt(k);
                d = d * 31 + levels[i][k];
            }
        }
        for (int i = 0; i < x.count(4); i++) {
            for (int what = 0; what <= 6; what++) {
                d = d * 31 + x.exhibit(i, what);
            }
            for (int k = 0; k < x.exhibit(i, 3); k++) {
                for (int what = 0; what <= 3; what++) {
                    d = d * 31 + x.link(i, k, what);
                }
            }
        }
        for (int i = 0; i < x.count(5); i++) {
            for (int what = 0; what <= 4; what++) {
                d = d * 31 + x.letter(i, what);
            }
        }
        for (int i = 0; i < x.count(9); i++) {
            d = d * 31 + x.byteAt(i);
        }
        return d;
    }
}
