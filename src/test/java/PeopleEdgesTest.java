/** Promises 8 to 13, and "Cases" and "People" of "2. Who sees what": a test for each sentence that names an edge. */
public final class PeopleEdgesTest {
    private static final Checks c = new Checks();

    public static void main(String[] args) {
        openTakesSealsUpToNine();
        openUpToTheEighth();
        sealTakesItsBounds();
        sealTellsTheOneBefore();
        addPersonTakesItsBounds();
        addPersonUpToTheTwelfth();
        attachTakesItsBounds();
        attachTurnsEachCaseAlone();
        reachesAndSealsMeet();
        everyReachAgainstEverySeal();
        personTakesItsBounds();
        personTellsEmptyAndFull();
        warningsAreTwoAtMost();
        caseOfTakesItsBounds();
        caseOfTellsEmptyAndFull();
        c.end();
    }

    /** Three cases, four people (one of each role), a document, an exhibit, a tape. */
    private static CourtMail room() {
        CourtMail x = new CourtMail();
        x.open(0);
        x.open(4);
        x.open(9);
        for (int role = 0; role <= 3; role++) {
            x.addPerson(role, role);
        }
        Checks.file(x, 1, "a{Bc}[3:d]");
        x.takeIn(1);
        Checks.write(x, "tape");
        return x;
    }

    private static CourtMail eightCases() {
        CourtMail x = new CourtMail();
        for (int i = 0; i < 8; i++) {
            x.open(i);
        }
        return x;
    }

    private static CourtMail twelvePeople() {
        CourtMail x = eightCases();
        for (int i = 0; i < 12; i++) {
            x.addPerson(i % 4, i % 10);
        }
        return x;
    }

    // ---- promise 8

    private static void openTakesSealsUpToNine() {
        c.range(CourtMail::new, "open", 0, 9, Checks.NO_ARGUMENT, CourtMail::open);
        c.range(PeopleEdgesTest::room, "open a fourth", 0, 9, Checks.NO_ARGUMENT, CourtMail::open);
        for (int seal = 0; seal <= 9; seal++) {
            CourtMail x = new CourtMail();
            c.due("open(" + seal + ")", x.open(seal), 0);
            c.due("its seal", x.caseOf(0, 0), seal);
        }
    }

    /** "There are at most 8"; a wrong seal is named first, and takes no number. */
    private static void openUpToTheEighth() {
        CourtMail x = new CourtMail();
        for (int i = 0; i < 8; i++) {
            c.refused("open(10) before " + i, x, Checks.NO_ARGUMENT, () -> x.open(10));
            c.due("open " + i, x.open(9 - i), i);
            c.due("cases", x.count(1), i + 1);
            c.due("its seal", x.caseOf(i, 0), 9 - i);
        }
        for (int seal = 0; seal <= 9; seal++) {
            int s = seal;
            c.refusedIn(PeopleEdgesTest::eightCases, "a ninth with " + s, Checks.NO_STATE, y -> y.open(s));
        }
        c.outside(PeopleEdgesTest::eightCases, "a ninth", 0, 9, Checks.NO_ARGUMENT, CourtMail::open);
    }

    // ---- promise 9

    private static void sealTakesItsBounds() {
        c.range(PeopleEdgesTest::room, "seal: case of 3", 0, 2, Checks.NO_INDEX, (x, n) -> x.seal(n, 1));
        c.range(PeopleEdgesTest::eightCases, "seal: case of 8", 0, 7, Checks.NO_INDEX, (x, n) -> x.seal(n, 1));
        c.range(PeopleEdgesTest::room, "seal: seal", 0, 9, Checks.NO_ARGUMENT, (x, n) -> x.seal(2, n));
        c.outside(PeopleEdgesTest::room, "seal of no case: seal", 0, 9, Checks.NO_INDEX, (x, n) -> x.seal(3, n));
    }

    private static void sealTellsTheOneBefore() {
        CourtMail x = room();
        c.due("9 behind 0", x.seal(0, 9), 0);
        c.due("0 behind 9", x.seal(0, 0), 9);
        c.due("0 behind 0", x.seal(0, 0), 0);
        c.due("the last case", x.seal(2, 8), 9);
        c.due("its seal", x.caseOf(2, 0), 8);
        c.due("the case between", x.caseOf(1, 0), 4);
    }

    // ---- promise 10

    private static void addPersonTakesItsBounds() {
        c.range(CourtMail::new, "addPerson: role", 0, 3, Checks.NO_ARGUMENT, (x, n) -> x.addPerson(n, 5));
        c.range(CourtMail::new, "addPerson: clearance", 0, 9, Checks.NO_ARGUMENT, (x, n) -> x.addPerson(2, n));
        c.range(PeopleEdgesTest::room, "addPerson: judge's clearance", 0, 9, Checks.NO_ARGUMENT,
            (x, n) -> x.addPerson(1, n));
    }

    /** "Throws IllegalStateException if there are 12"; a wrong role or clearance is named first. */
    private static void addPersonUpToTheTwelfth() {
        CourtMail x = new CourtMail();
        for (int i = 0; i < 12; i++) {
            c.refused("role 4 before " + i, x, Checks.NO_ARGUMENT, () -> x.addPerson(4, 0));
            c.refused("clearance 10 before " + i, x, Checks.NO_ARGUMENT, () -> x.addPerson(0, 10));
            c.due("person " + i, x.addPerson(3 - i % 4, 9 - i % 10), i);
            c.due("people", x.count(2), i + 1);
            c.due("role of " + i, x.person(i, 0), 3 - i % 4);
            c.due("clearance of " + i, x.person(i, 1), 9 - i % 10);
            c.due("attached to none at first", x.person(i, 2), 0);
        }
        for (int role = 0; role <= 3; role++) {
            int r = role;
            c.refusedIn(PeopleEdgesTest::twelvePeople, "a 13th", Checks.NO_STATE, y -> y.addPerson(r, 9 - r));
        }
        c.outside(PeopleEdgesTest::twelvePeople, "a 13th: role", 0, 3, Checks.NO_ARGUMENT,
            (y, n) -> y.addPerson(n, 0));
        c.outside(PeopleEdgesTest::twelvePeople, "a 13th: clearance", 0, 9, Checks.NO_ARGUMENT,
            (y, n) -> y.addPerson(0, n));
    }

    // ---- promise 11

    private static void attachTakesItsBounds() {
        c.range(PeopleEdgesTest::room, "attach: person", 0, 3, Checks.NO_INDEX, (x, n) -> x.attach(n, 1));
        c.range(PeopleEdgesTest::room, "attach: case", 0, 2, Checks.NO_INDEX, (x, n) -> x.attach(2, n));
        c.range(PeopleEdgesTest::twelvePeople, "attach: one of 12", 0, 11, Checks.NO_INDEX, (x, n) -> x.attach(n, 7));
        c.range(PeopleEdgesTest::twelvePeople, "attach: to one of 8", 0, 7, Checks.NO_INDEX, (x, n) -> x.attach(0, n));
        c.refusedIn(PeopleEdgesTest::eightCases, "attach: nobody there", Checks.NO_INDEX, x -> x.attach(0, 0));
        c.refusedIn(PeopleEdgesTest::room, "attach: neither", Checks.NO_INDEX, x -> x.attach(4, 3));
    }

    private static void attachTurnsEachCaseAlone() {
        CourtMail x = twelvePeople();
        for (int i = 0; i < 8; i++) {
            c.due("attach(11, " + i + ")", x.attach(11, i), true);
            c.due("attached up to " + i, x.person(11, 2), (1 << i + 1) - 1);
        }
        c.due("another person", x.person(10, 2), 0);
        c.due("take 0 back", x.attach(11, 0), false);
        c.due("take 7 back", x.attach(11, 7), false);
        c.due("the others stay", x.person(11, 2), 126);
        c.due("and 7 again", x.attach(11, 7), true);
        c.due("with the others", x.person(11, 2), 254);
        c.due("the first person", x.attach(0, 0), true);
        c.due("the first person's", x.person(0, 2), 1);
    }

    // ---- reach

    private static int seesInto(int role, int clearance, boolean attached, int seal) {
        CourtMail x = new CourtMail();
        x.open(seal);
        x.addPerson(role, clearance);
        if (attached) {
            x.attach(0, 0);
        }
        c.due("people who see into it", x.caseOf(0, 4), x.person(0, 3));
        return x.person(0, 3);
    }

    /** "if its seal is not greater than the reach": as great is seen, one more is not. */
    private static void reachesAndSealsMeet() {
        c.due("public 0, seal 0", seesInto(3, 0, false, 0), 1);
        c.due("public 0, seal 1", seesInto(3, 0, false, 1), 0);
        c.due("public 0, attached, seal 2", seesInto(3, 0, true, 2), 1);
        c.due("public 0, attached, seal 3", seesInto(3, 0, true, 3), 0);
        c.due("lawyer 8, seal 9", seesInto(2, 8, false, 9), 0);
        c.due("lawyer 9, seal 9", seesInto(2, 9, false, 9), 1);
        c.due("lawyer 6, attached, seal 9", seesInto(2, 6, true, 9), 0);
        c.due("lawyer 7, attached, seal 9", seesInto(2, 7, true, 9), 1);
        c.due("lawyer 9, attached, seal 9", seesInto(2, 9, true, 9), 1);
        c.due("judge 0, seal 9", seesInto(1, 0, false, 9), 1);
        c.due("clerk 0, seal 9", seesInto(0, 0, false, 9), 0);
        c.due("clerk 8, attached, seal 9", seesInto(0, 8, true, 9), 1);
    }

    private static void everyReachAgainstEverySeal() {
        for (int role = 0; role <= 3; role++) {
            for (int clearance = 0; clearance <= 9; clearance++) {
                for (int seal = 0; seal <= 9; seal++) {
                    String who = "role " + role + ", clearance " + clearance + ", seal " + seal;
                    c.due(who, seesInto(role, clearance, false, seal), role == 1 || clearance >= seal ? 1 : 0);
                    c.due(who + ", attached", seesInto(role, clearance, true, seal),
                        role == 1 || clearance + 2 >= seal ? 1 : 0);
                }
            }
        }
    }

    // ---- promise 12

    private static void personTakesItsBounds() {
        c.range(PeopleEdgesTest::room, "person of 4", 0, 3, Checks.NO_INDEX, (x, n) -> x.person(n, 0));
        c.range(PeopleEdgesTest::twelvePeople, "person of 12", 0, 11, Checks.NO_INDEX, (x, n) -> x.person(n, 7));
        c.range(PeopleEdgesTest::room, "person: what", 0, 7, Checks.NO_INDEX, (x, n) -> x.person(3, n));
        c.refusedIn(PeopleEdgesTest::eightCases, "nobody there", Checks.NO_INDEX, x -> x.person(0, 0));
    }

    private static void personIs(String who, CourtMail x, int person, int... due) {
        for (int what = 0; what <= 7; what++) {
            c.due(who + ": person(" + person + ", " + what + ")", x.person(person, what), due[what]);
        }
    }

    private static void personTellsEmptyAndFull() {
        CourtMail alone = new CourtMail();
        alone.addPerson(0, 0);
        personIs("in no case", alone, 0, 0, 0, 0, 0, 0, 0, 0, 0);
        CourtMail x = eightCases();
        x.addPerson(1, 9);
        x.addPerson(3, 0);
        x.addPerson(0, 0);
        for (int i = 0; i < 8; i++) {
            x.attach(0, i);
        }
        for (int i = 0; i < 24; i++) {
            Checks.file(x, i % 8, "d");
            x.lend(i, 0, 60);
        }
        for (int i = 0; i < 20; i++) {
            x.takeIn(i % 8);
            x.hand(i, 0);
        }
        for (int i = 0; i < 40; i++) {
            x.send(i % 24, 0, 0);
        }
        personIs("before the letters", x, 0, 1, 9, 255, 255, 0, 24, 20, 0);
        x.pass(13);
        personIs("one letter less", x, 0, 1, 9, 255, 255, 0, 24, 20, 39);
        x.pass(1);
        personIs("with all", x, 0, 1, 9, 255, 255, 0, 24, 20, 40);
        personIs("with nothing", x, 1, 3, 0, 0, 1, 0, 0, 0, 0);
        x.pass(46);
        personIs("on the last day", x, 0, 1, 9, 255, 255, 0, 24, 20, 40);
        x.pass(1);
        personIs("behind it: 24 warnings", x, 0, 1, 1, 255, 255, 0, 0, 20, 40);
    }

    /** "with 3 warnings the clearance of this person is 1 less, at least 0, and there are none again" */
    private static void warningsAreTwoAtMost() {
        for (int clearance : new int[] {0, 1, 2, 9}) {
            CourtMail x = new CourtMail();
            x.open(0);
            x.addPerson(2, clearance);
            Checks.file(x, 0, "d");
            int due = clearance;
            for (int late = 1; late <= 7; late++) {
                x.lend(0, 0, 1);
                x.pass(2);
                due = late % 3 == 0 ? Math.max(0, due - 1) : due;
                c.due("warnings behind " + late + " from " + clearance, x.person(0, 4), late % 3);
                c.due("clearance behind " + late + " from " + clearance, x.person(0, 1), due);
            }
        }
    }

    // ---- promise 13

    private static void caseOfTakesItsBounds() {
        c.range(PeopleEdgesTest::room, "caseOf of 3", 0, 2, Checks.NO_INDEX, (x, n) -> x.caseOf(n, 0));
        c.range(PeopleEdgesTest::eightCases, "caseOf of 8", 0, 7, Checks.NO_INDEX, (x, n) -> x.caseOf(n, 4));
        c.range(PeopleEdgesTest::room, "caseOf: what", 0, 4, Checks.NO_INDEX, (x, n) -> x.caseOf(1, n));
    }

    private static void caseIs(CourtMail x, int ofCase, int... due) {
        for (int what = 0; what <= 4; what++) {
            c.due("caseOf(" + ofCase + ", " + what + ")", x.caseOf(ofCase, what), due[what]);
        }
    }

    private static void caseOfTellsEmptyAndFull() {
        CourtMail x = new CourtMail();
        x.open(9);
        caseIs(x, 0, 9, 0, 0, 0, 0);
        for (int i = 1; i < 8; i++) {
            x.open(0);
        }
        for (int i = 0; i < 12; i++) {
            x.addPerson(3, i % 10);
        }
        for (int i = 0; i < 24; i++) {
            x.file(7);
        }
        for (int i = 0; i < 20; i++) {
            x.takeIn(7);
        }
        caseIs(x, 0, 9, 0, 0, 0, 1);
        caseIs(x, 6, 0, 0, 0, 0, 12);
        caseIs(x, 7, 0, 24, 20, 20, 12);
        for (int i = 0; i < 20; i++) {
            x.lose(i);
            c.due("can be admitted, " + (i + 1) + " lost", x.caseOf(7, 3), 19 - i);
        }
        caseIs(x, 7, 0, 24, 20, 0, 12);
    }
}
