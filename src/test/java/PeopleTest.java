/** Promises 8 to 13: open, seal, addPerson, attach, person, caseOf. */
public final class PeopleTest {
    private static final Checks c = new Checks();

    public static void main(String[] args) {
        openCases();
        sealAnew();
        addPeople();
        attachAndTakeBack();
        reachAndSeals();
        personTells();
        personRefuses();
        caseTells();
        caseRefuses();
        c.end();
    }

    private static void openCases() {
        CourtMail x = new CourtMail();
        c.refused("open(-1)", x, Checks.NO_ARGUMENT, () -> x.open(-1));
        c.refused("open(10)", x, Checks.NO_ARGUMENT, () -> x.open(10));
        for (int i = 0; i < 8; i++) {
            c.due("open " + i, x.open(i + 2), i);
            c.due("cases", x.count(1), i + 1);
        }
        for (int i = 0; i < 8; i++) {
            c.due("seal of " + i, x.caseOf(i, 0), i + 2);
        }
        c.refused("a ninth case", x, Checks.NO_STATE, () -> x.open(0));
        c.refused("a ninth case with a wrong seal", x, Checks.NO_ARGUMENT, () -> x.open(10));
    }

    private static void sealAnew() {
        CourtMail x = new CourtMail();
        c.refused("seal(0, 1) without cases", x, Checks.NO_INDEX, () -> x.seal(0, 1));
        x.open(4);
        x.open(7);
        c.due("seal(0, 9)", x.seal(0, 9), 4);
        c.due("seal(0, 0)", x.seal(0, 0), 9);
        c.due("seal(0, 0) again", x.seal(0, 0), 0);
        c.due("the other", x.caseOf(1, 0), 7);
        c.refused("seal(-1, 1)", x, Checks.NO_INDEX, () -> x.seal(-1, 1));
        c.refused("seal(2, 1)", x, Checks.NO_INDEX, () -> x.seal(2, 1));
        c.refused("seal(2, 10)", x, Checks.NO_INDEX, () -> x.seal(2, 10));
        c.refused("seal(0, -1)", x, Checks.NO_ARGUMENT, () -> x.seal(0, -1));
        c.refused("seal(0, 10)", x, Checks.NO_ARGUMENT, () -> x.seal(0, 10));
    }

    private static void addPeople() {
        CourtMail x = new CourtMail();
        c.refused("role -1", x, Checks.NO_ARGUMENT, () -> x.addPerson(-1, 0));
        c.refused("role 4", x, Checks.NO_ARGUMENT, () -> x.addPerson(4, 0));
        c.refused("clearance -1", x, Checks.NO_ARGUMENT, () -> x.addPerson(0, -1));
        c.refused("clearance 10", x, Checks.NO_ARGUMENT, () -> x.addPerson(0, 10));
        for (int i = 0; i < 12; i++) {
            c.due("person " + i, x.addPerson(i % 4, i % 10), i);
        }
        for (int i = 0; i < 12; i++) {
            c.due("role of " + i, x.person(i, 0), i % 4);
            c.due("clearance of " + i, x.person(i, 1), i % 10);
        }
        c.due("people", x.count(2), 12);
        c.refused("a 13th", x, Checks.NO_STATE, () -> x.addPerson(0, 0));
        c.refused("a 13th of no role", x, Checks.NO_ARGUMENT, () -> x.addPerson(4, 0));
    }

    private static void attachAndTakeBack() {
        CourtMail x = new CourtMail();
        x.open(0);
        x.open(0);
        x.addPerson(2, 3);
        x.addPerson(2, 3);
        c.due("attach(1, 1)", x.attach(1, 1), true);
        c.due("cases of 1", x.person(1, 2), 2);
        c.due("cases of 0", x.person(0, 2), 0);
        c.due("attach(1, 0)", x.attach(1, 0), true);
        c.due("cases of 1", x.person(1, 2), 3);
        c.due("attach(1, 1) again", x.attach(1, 1), false);
        c.due("cases of 1", x.person(1, 2), 1);
        c.due("attach(1, 1) a third time", x.attach(1, 1), true);
        c.refused("attach(-1, 0)", x, Checks.NO_INDEX, () -> x.attach(-1, 0));
        c.refused("attach(2, 0)", x, Checks.NO_INDEX, () -> x.attach(2, 0));
        c.refused("attach(0, -1)", x, Checks.NO_INDEX, () -> x.attach(0, -1));
        c.refused("attach(0, 2)", x, Checks.NO_INDEX, () -> x.attach(0, 2));
        // the eighth case
        for (int i = 2; i < 8; i++) {
            x.open(0);
        }
        c.due("attach(0, 7)", x.attach(0, 7), true);
        c.due("cases of 0", x.person(0, 2), 128);
    }

    private static void reachAndSeals() {
        for (int role = 0; role <= 3; role++) {
            CourtMail x = new CourtMail();
            x.open(0);
            for (int clearance : new int[] {0, 3, 7, 8, 9}) {
                int p = x.addPerson(role, clearance);
                for (int attached = 0; attached <= 1; attached++) {
                    int reach = role == 1 ? 9 : Math.min(9, clearance + 2 * attached);
                    for (int seal = 0; seal <= 9; seal++) {
                        x.seal(0, seal);
                        String who = "role " + role + " clearance " + clearance + " attached " + attached;
                        c.due(who + " seal " + seal, x.person(p, 3), seal <= reach ? 1 : 0);
                    }
                    x.attach(p, 0);
                }
            }
        }
        CourtMail y = new CourtMail();
        y.open(2);
        for (int role : new int[] {2, 3}) {
            int p = y.addPerson(role, 1);
            c.due("role " + role + " not attached", y.person(p, 3), 0);
            y.attach(p, 0);
            c.due("role " + role + " attached", y.person(p, 3), 1);
        }
        // being attached to one case is of no use in another
        y.open(2);
        c.due("only the one", y.person(0, 3), 1);
        y.open(1);
        c.due("the one and the open", y.person(0, 3), 5);
    }

    private static void personTells() {
        CourtMail x = new CourtMail();
        x.open(0);
        x.open(5);
        x.open(2);
        x.addPerson(0, 2);
        x.addPerson(2, 3);
        x.attach(1, 1);
        x.attach(1, 2);
        int[] fresh = {2, 3, 6, 7, 0, 0, 0, 0};
        for (int what = 0; what <= 7; what++) {
            c.due("person(1, " + what + ")", x.person(1, what), fresh[what]);
        }
        for (int i = 0; i < 3; i++) {
            Checks.file(x, 0, "abc");
        }
        x.lend(0, 1, 1);
        x.lend(1, 1, 9);
        x.lend(2, 0, 9);
        x.takeIn(0);
        x.takeIn(1);
        x.takeIn(0);
        x.hand(1, 1);
        x.hand(2, 1);
        x.hand(0, 0);
        x.send(0, 1, 0);
        x.send(0, 1, 0);
        x.send(0, 0, 0);
        x.send(0, 1, 8);
        x.pass(1);
        c.due("letters of 1", x.person(1, 7), 2);
        c.due("letters of 0", x.person(0, 7), 1);
        c.due("originals of 1", x.person(1, 5), 2);
        x.pass(1);
        int[] then = {2, 3, 6, 7, 1, 1, 2, 3};
        for (int what = 0; what <= 7; what++) {
            c.due("then: person(1, " + what + ")", x.person(1, what), then[what]);
        }
        c.due("exhibits of 0", x.person(0, 6), 1);
        x.lose(1);
        c.due("exhibits of 1", x.person(1, 6), 1);
        x.seal(0, 4);
        c.due("cases that 1 sees", x.person(1, 3), 6);
        x.send(1, 1, 0);
        x.pass(1);
        c.due("a returned letter is none of 1", x.person(1, 7), 3);
    }

    private static void personRefuses() {
        CourtMail x = new CourtMail();
        x.addPerson(0, 0);
        c.refused("person(-1, 0)", x, Checks.NO_INDEX, () -> x.person(-1, 0));
        c.refused("person(1, 0)", x, Checks.NO_INDEX, () -> x.person(1, 0));
        c.refused("person(0, -1)", x, Checks.NO_INDEX, () -> x.person(0, -1));
        c.refused("person(0, 8)", x, Checks.NO_INDEX, () -> x.person(0, 8));
    }

    private static void caseTells() {
        CourtMail x = new CourtMail();
        x.open(3);
        x.open(0);
        x.addPerson(3, 3);
        x.addPerson(0, 2);
        x.addPerson(1, 0);
        x.addPerson(2, 9);
        c.due("people of 0", x.caseOf(0, 4), 3);
        c.due("people of 1", x.caseOf(1, 4), 4);
        x.attach(1, 0);
        c.due("people of 0, one attached", x.caseOf(0, 4), 4);
        Checks.file(x, 0, "a");
        Checks.file(x, 1, "b");
        Checks.file(x, 0, "c");
        x.takeIn(0);
        x.takeIn(0);
        x.takeIn(1);
        x.takeIn(0);
        x.hand(0, 0);
        x.lose(2);
        int[] one = {3, 2, 3, 2, 4};
        int[] other = {0, 1, 1, 0, 4};
        for (int what = 0; what <= 4; what++) {
            c.due("caseOf(0, " + what + ")", x.caseOf(0, what), one[what]);
            c.due("caseOf(1, " + what + ")", x.caseOf(1, what), other[what]);
        }
    }

    private static void caseRefuses() {
        CourtMail x = new CourtMail();
        x.open(0);
        c.refused("caseOf(-1, 0)", x, Checks.NO_INDEX, () -> x.caseOf(-1, 0));
        c.refused("caseOf(1, 0)", x, Checks.NO_INDEX, () -> x.caseOf(1, 0));
        c.refused("caseOf(0, -1)", x, Checks.NO_INDEX, () -> x.caseOf(0, -1));
        c.refused("caseOf(0, 5)", x, Checks.NO_INDEX, () -> x.caseOf(0, 5));
    }
}
