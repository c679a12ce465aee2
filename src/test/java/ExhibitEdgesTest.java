import java.util.function.Supplier;

/** Promises 22 to 28, and "3. Exhibits": a test for each sentence that names an edge. */
public final class ExhibitEdgesTest {
    private static final Checks c = new Checks();
    private static final int ROOM = -1;
    private static final int LOST = -2;

    public static void main(String[] args) {
        takeInTakesItsBounds();
        takeInUpToTheTwentieth();
        handTakesItsBounds();
        handRefusesInOrder();
        handNotToWhereItIs();
        handNotWhatIsLost();
        handOnlyToOneWhoSeesIntoTheCase();
        chainsHaveTwelveLinks();
        aFullChainRefuses();
        unsealTakesItsBounds();
        unsealNeedsOneWhoHasIt();
        sealNumbersGoRound();
        loseTakesItsBounds();
        loseFromEverywhereOnce();
        foundTakesItsBounds();
        foundOnlyWhatIsLost();
        foundByAnybody();
        exhibitTakesItsBounds();
        exhibitTellsEmptyAndFull();
        admittedAtEachEdge();
        linkTakesItsBounds();
        linkTellsTheFirstAndTheLast();
        c.end();
    }

    /**
     * Cases 0 (seal 0) and 1 (seal 5); a clerk 0 and a judge 1 without clearance, a lawyer 2 with 4, public 3 with 5;
     * exhibits 0 of the case 0 and 1 of the case 1.
     */
    private static CourtMail room() {
        CourtMail x = new CourtMail();
        x.open(0);
        x.open(5);
        x.addPerson(0, 0);
        x.addPerson(1, 0);
        x.addPerson(2, 4);
        x.addPerson(3, 5);
        x.takeIn(0);
        x.takeIn(1);
        return x;
    }

    /** The exhibit 0 with so many links, the last of them to the clerk or the judge. */
    private static CourtMail linked(int links) {
        CourtMail x = room();
        for (int i = 0; i < links; i++) {
            x.hand(0, i % 2);
        }
        return x;
    }

    private static CourtMail lost() {
        CourtMail x = room();
        x.hand(0, 1);
        x.lose(0);
        return x;
    }

    private static CourtMail held() {
        CourtMail x = room();
        x.hand(0, 2);
        return x;
    }

    private static CourtMail twentyExhibits() {
        CourtMail x = new CourtMail();
        x.open(0);
        x.open(9);
        x.addPerson(1, 0);
        for (int i = 0; i < 20; i++) {
            x.takeIn(i % 2);
        }
        return x;
    }

    private static CourtMail twelvePeople() {
        CourtMail x = twentyExhibits();
        for (int i = 1; i < 12; i++) {
            x.addPerson(i % 4, 9);
        }
        return x;
    }

    private static void linkIs(CourtMail x, int exhibit, int link, int day, int from, int to, int happened) {
        int[] due = {day, from, to, happened};
        for (int what = 0; what <= 3; what++) {
            c.due("link(" + exhibit + ", " + link + ", " + what + ")", x.link(exhibit, link, what), due[what]);
        }
    }

    // ---- promise 22

    private static void takeInTakesItsBounds() {
        c.range(ExhibitEdgesTest::room, "takeIn of 2 cases", 0, 1, Checks.NO_INDEX, CourtMail::takeIn);
        c.range(() -> {
            CourtMail x = new CourtMail();
            for (int i = 0; i < 8; i++) {
                x.open(i);
            }
            return x;
        }, "takeIn of 8 cases", 0, 7, Checks.NO_INDEX, CourtMail::takeIn);
    }

    private static void takeInUpToTheTwentieth() {
        CourtMail x = new CourtMail();
        x.open(9);
        x.open(0);
        for (int i = 0; i < 20; i++) {
            c.refused("of no case before " + i, x, Checks.NO_INDEX, () -> x.takeIn(2));
            c.due("takeIn " + i, x.takeIn(i % 2), i);
            c.due("exhibits", x.count(4), i + 1);
            int[] fresh = {i % 2, ROOM, 1000 + i, 0, 0, 1, 0};
            for (int what = 0; what <= 6; what++) {
                c.due("exhibit(" + i + ", " + what + ")", x.exhibit(i, what), fresh[what]);
            }
        }
        c.refusedIn(ExhibitEdgesTest::twentyExhibits, "a 21st", Checks.NO_STATE, y -> y.takeIn(0));
        c.refusedIn(ExhibitEdgesTest::twentyExhibits, "a 21st of the last case", Checks.NO_STATE, y -> y.takeIn(1));
        c.outside(ExhibitEdgesTest::twentyExhibits, "a 21st", 0, 1, Checks.NO_INDEX, CourtMail::takeIn);
        c.refusedIn(() -> {
            CourtMail y = twentyExhibits();
            y.lose(0);
            return y;
        }, "a 21st for one that is lost", Checks.NO_STATE, y -> y.takeIn(0));
    }

    // ---- promise 23

    private static void handTakesItsBounds() {
        c.range(ExhibitEdgesTest::room, "hand: one of 2", 0, 1, Checks.NO_INDEX, (x, n) -> x.hand(n, 1));
        c.range(ExhibitEdgesTest::twelvePeople, "hand: one of 20", 0, 19, Checks.NO_INDEX, (x, n) -> x.hand(n, 0));
        c.range(() -> linked(2), "hand: to", ROOM, 3, Checks.NO_INDEX, (x, n) -> x.hand(0, n));
        c.range(() -> {
            CourtMail x = twelvePeople();
            x.hand(1, 5);
            return x;
        }, "hand: to one of 12", ROOM, 11, Checks.NO_INDEX, (x, n) -> x.hand(1, n));
        c.outside(ExhibitEdgesTest::room, "hand to the room: exhibit", 0, 1, Checks.NO_INDEX,
            (x, n) -> x.hand(n, ROOM));
        c.refusedIn(ExhibitEdgesTest::lost, "to -2, which is lost", Checks.NO_INDEX, x -> x.hand(0, LOST));
    }

    /** No such person is named ahead of every state in which an exhibit can be. */
    private static void handRefusesInOrder() {
        c.outside(ExhibitEdgesTest::lost, "hand what is lost: to", ROOM, 3, Checks.NO_INDEX, (x, n) -> x.hand(0, n));
        c.outside(() -> linked(12), "hand behind twelve: to", ROOM, 3, Checks.NO_INDEX, (x, n) -> x.hand(0, n));
        c.outside(ExhibitEdgesTest::room, "hand: neither", ROOM, 3, Checks.NO_INDEX, (x, n) -> x.hand(2, n));
    }

    private static void handNotToWhereItIs() {
        c.refusedIn(ExhibitEdgesTest::room, "from the room to the room", Checks.NO_STATE, x -> x.hand(0, ROOM));
        for (int who = 0; who <= 3; who++) {
            int p = who;
            c.refusedIn(() -> {
                CourtMail x = room();
                x.hand(0, p);
                return x;
            }, "from " + p + " to the same", Checks.NO_STATE, x -> x.hand(0, p));
        }
        c.refusedIn(() -> {
            CourtMail x = linked(1);
            x.hand(0, ROOM);
            return x;
        }, "to the room again", Checks.NO_STATE, x -> x.hand(0, ROOM));
        CourtMail x = linked(1);
        c.due("to the room", x.hand(0, ROOM), 2);
        c.due("to the same behind it", x.hand(0, 0), 3);
    }

    private static void handNotWhatIsLost() {
        for (int to = ROOM; to <= 3; to++) {
            int n = to;
            c.refusedIn(ExhibitEdgesTest::lost, "a lost one to " + n, Checks.NO_STATE, x -> x.hand(0, n));
        }
        c.due("another one", lost().hand(1, 1), 1);
        CourtMail x = lost();
        x.found(0, ROOM);
        c.due("when it is found", x.hand(0, 1), 3);
    }

    /** "or this person cannot see into its case": a reach as great as the seal is enough. */
    private static void handOnlyToOneWhoSeesIntoTheCase() {
        for (int seal = 0; seal <= 9; seal++) {
            int s = seal;
            Supplier<CourtMail> sealed = () -> {
                CourtMail x = room();
                x.seal(1, s);
                return x;
            };
            int[] reach = {0, 9, 4, 5};
            for (int to = 0; to <= 3; to++) {
                int n = to;
                if (reach[to] >= seal) {
                    c.due("seal " + seal + " to " + to, sealed.get().hand(1, to), 1);
                } else {
                    c.refusedIn(sealed, "seal " + seal + " to " + to, Checks.NO_STATE, x -> x.hand(1, n));
                }
            }
        }
        CourtMail x = room();
        x.attach(2, 1);
        c.due("to one who is attached", x.hand(1, 2), 1);
        x.seal(1, 9);
        c.due("back to the room, whatever the seal", x.hand(1, ROOM), 2);
    }

    // ---- chains

    private static void chainsHaveTwelveLinks() {
        CourtMail x = room();
        for (int i = 1; i <= 12; i++) {
            c.due("hand " + i, x.hand(0, i % 2), i);
            c.due("links", x.exhibit(0, 3), i);
        }
        CourtMail y = linked(11);
        y.unseal(0);
        c.due("opened as the twelfth", y.exhibit(0, 3), 12);
        CourtMail z = linked(11);
        z.lose(0);
        c.due("found as the twelfth", z.found(0, ROOM), 12);
        CourtMail w = linked(11);
        c.due("to the room as the twelfth", w.hand(0, ROOM), 12);
        CourtMail v = linked(12);
        c.due("the chain of another one", v.hand(1, 1), 1);
        c.due("losing is no link", v.lose(0), 1);
        c.due("links", v.exhibit(0, 3), 12);
    }

    private static void aFullChainRefuses() {
        Supplier<CourtMail> full = () -> linked(12);
        c.refusedIn(full, "a 13th to the clerk", Checks.NO_STATE, x -> x.hand(0, 0));
        c.refusedIn(full, "a 13th to the room", Checks.NO_STATE, x -> x.hand(0, ROOM));
        c.refusedIn(full, "a 13th by opening", Checks.NO_STATE, x -> x.unseal(0));
        Supplier<CourtMail> fullAndLost = () -> {
            CourtMail x = linked(12);
            x.lose(0);
            return x;
        };
        c.refusedIn(fullAndLost, "a 13th by finding", Checks.NO_STATE, x -> x.found(0, 0));
        c.refusedIn(fullAndLost, "a 13th by finding in the room", Checks.NO_STATE, x -> x.found(0, ROOM));
        c.due("it stays lost", fullAndLost.get().exhibit(0, 1), LOST);
        c.due("and it was its last link", full.get().link(0, 11, 2), 1);
    }

    // ---- promise 24

    private static void unsealTakesItsBounds() {
        c.range(() -> {
            CourtMail x = held();
            x.hand(1, 3);
            return x;
        }, "unseal one of 2", 0, 1, Checks.NO_INDEX, CourtMail::unseal);
        c.outside(() -> linked(12), "unseal behind twelve", 0, 1, Checks.NO_INDEX, CourtMail::unseal);
    }

    private static void unsealNeedsOneWhoHasIt() {
        c.refusedIn(ExhibitEdgesTest::room, "in the room", Checks.NO_STATE, x -> x.unseal(0));
        c.refusedIn(ExhibitEdgesTest::lost, "lost", Checks.NO_STATE, x -> x.unseal(0));
        c.refusedIn(() -> {
            CourtMail x = held();
            x.hand(0, ROOM);
            return x;
        }, "in the room again", Checks.NO_STATE, x -> x.unseal(0));
        for (int who = 0; who <= 3; who++) {
            CourtMail x = room();
            x.hand(0, who);
            c.due("by " + who, x.unseal(0), 31000 % 10007);
            linkIs(x, 0, 1, 0, who, who, 2);
            c.due("who has it", x.exhibit(0, 1), who);
        }
    }

    /** "the seal number becomes (seal number * 31 and the day) by the remainder of 10007" */
    private static void sealNumbersGoRound() {
        CourtMail x = new CourtMail();
        x.open(0);
        x.addPerson(1, 0);
        for (int i = 0; i < 20; i++) {
            x.takeIn(0);
        }
        x.hand(19, 0);
        long due = 1019;
        int day = 0;
        for (int i = 0; i < 11; i++) {
            due = (due * 31 + day) % 10007;
            c.due("opened on the day " + day, x.unseal(19), due);
            c.due("its seal number", x.exhibit(19, 2), due);
            x.pass(97);
            day += 97;
        }
        c.due("another one's", x.exhibit(18, 2), 1018);
        // 1000 * 31 = 31000 = 3 * 10007 + 979: the days 9027 and 9028 are the last below and the first at the divisor
        for (int more = 0; more <= 1; more++) {
            CourtMail y = room();
            y.hand(0, 1);
            for (int i = 0; i < 90; i++) {
                y.pass(100);
            }
            y.pass(27 + more);
            c.due("the day", y.count(0), 9027 + more);
            c.due("on the day " + (9027 + more), y.unseal(0), more == 0 ? 10006 : 0);
            c.due("once more", y.unseal(0), more == 0 ? (10006L * 31 + 9027) % 10007 : 9028);
        }
    }

    // ---- promises 25 and 26

    private static void loseTakesItsBounds() {
        c.range(ExhibitEdgesTest::room, "lose one of 2", 0, 1, Checks.NO_INDEX, CourtMail::lose);
        c.range(ExhibitEdgesTest::twentyExhibits, "lose one of 20", 0, 19, Checks.NO_INDEX, CourtMail::lose);
    }

    private static void loseFromEverywhereOnce() {
        for (int who = ROOM; who <= 3; who++) {
            int p = who;
            Supplier<CourtMail> given = () -> {
                CourtMail x = room();
                if (p != ROOM) {
                    x.hand(0, p);
                }
                return x;
            };
            CourtMail x = given.get();
            c.due("lose from " + who, x.lose(0), who);
            c.due("where it is", x.exhibit(0, 1), LOST);
            c.due("no link", x.exhibit(0, 3), who == ROOM ? 0 : 1);
            c.due("its seal number", x.exhibit(0, 2), 1000);
            c.due("lost ones", x.count(10), 1);
            c.refusedIn(() -> {
                CourtMail y = given.get();
                y.lose(0);
                return y;
            }, "lose from " + who + " again", Checks.NO_STATE, y -> y.lose(0));
        }
        CourtMail x = twentyExhibits();
        for (int i = 0; i < 20; i++) {
            x.lose(i);
            c.due("lost ones", x.count(10), i + 1);
        }
    }

    private static void foundTakesItsBounds() {
        Supplier<CourtMail> bothLost = () -> {
            CourtMail x = lost();
            x.lose(1);
            return x;
        };
        c.range(bothLost, "found: exhibit", 0, 1, Checks.NO_INDEX, (x, n) -> x.found(n, 1));
        c.range(bothLost, "found: by", ROOM, 3, Checks.NO_INDEX, (x, n) -> x.found(0, n));
        c.outside(bothLost, "found in the room: exhibit", 0, 1, Checks.NO_INDEX, (x, n) -> x.found(n, ROOM));
        c.outside(ExhibitEdgesTest::room, "found what is not lost: by", ROOM, 3, Checks.NO_INDEX,
            (x, n) -> x.found(0, n));
        c.outside(() -> {
            CourtMail x = linked(12);
            x.lose(0);
            return x;
        }, "found behind twelve: by", ROOM, 3, Checks.NO_INDEX, (x, n) -> x.found(0, n));
    }

    private static void foundOnlyWhatIsLost() {
        for (int by = ROOM; by <= 3; by++) {
            int n = by;
            c.refusedIn(ExhibitEdgesTest::room, "one in the room by " + n, Checks.NO_STATE, x -> x.found(0, n));
            c.refusedIn(ExhibitEdgesTest::held, "one with the lawyer by " + n, Checks.NO_STATE, x -> x.found(0, n));
            c.refusedIn(() -> {
                CourtMail x = lost();
                x.found(0, 1);
                return x;
            }, "one that was found by " + n, Checks.NO_STATE, x -> x.found(0, n));
        }
    }

    /** "Finding is a link, from the room, to who has it then (or to the room): it is a gap", whatever one can see. */
    private static void foundByAnybody() {
        for (int by = ROOM; by <= 3; by++) {
            CourtMail x = room();
            x.seal(1, 9);
            x.lose(1);
            x.pass(2);
            c.due("found by " + by, x.found(1, by), 1);
            linkIs(x, 1, 0, 2, ROOM, by, 1);
            c.due("who has it", x.exhibit(1, 1), by);
            c.due("gaps", x.exhibit(1, 4), 1);
            c.due("lost ones", x.count(10), 0);
        }
        CourtMail x = lost();
        x.found(0, 1);
        linkIs(x, 0, 1, 0, ROOM, 1, 1);
        c.due("found by who had it", x.person(1, 6), 1);
    }

    // ---- promises 27 and 28

    private static void exhibitTakesItsBounds() {
        c.range(ExhibitEdgesTest::room, "exhibit of 2", 0, 1, Checks.NO_INDEX, (x, n) -> x.exhibit(n, 0));
        c.range(ExhibitEdgesTest::twentyExhibits, "exhibit of 20", 0, 19, Checks.NO_INDEX, (x, n) -> x.exhibit(n, 6));
        c.range(ExhibitEdgesTest::lost, "exhibit: what", 0, 6, Checks.NO_INDEX, (x, n) -> x.exhibit(0, n));
    }

    private static void exhibitIs(CourtMail x, int exhibit, int... due) {
        for (int what = 0; what <= 6; what++) {
            c.due("exhibit(" + exhibit + ", " + what + ")", x.exhibit(exhibit, what), due[what]);
        }
    }

    private static void exhibitTellsEmptyAndFull() {
        CourtMail x = twelvePeople();
        exhibitIs(x, 0, 0, ROOM, 1000, 0, 0, 1, 0);
        exhibitIs(x, 19, 1, ROOM, 1019, 0, 0, 1, 0);
        for (int i = 0; i < 24; i++) {
            Checks.file(x, 1, i == 0 ? "@19@19" : i == 1 ? "@19@1@019@19" : "@19");
            c.due("documents that mark 19", x.exhibit(19, 6), i + 1);
            c.due("documents that mark 1", x.exhibit(1, 6), i == 0 ? 0 : 1);
        }
        for (int i = 0; i < 12; i++) {
            x.lose(19);
            c.due("found " + i, x.found(19, 11 - i), i + 1);
            c.due("gaps", x.exhibit(19, 4), i + 1);
        }
        exhibitIs(x, 19, 1, 0, 1019, 12, 12, 0, 24);
        x.lose(19);
        exhibitIs(x, 19, 1, LOST, 1019, 12, 12, 0, 24);
        exhibitIs(x, 17, 1, ROOM, 1017, 0, 0, 1, 0);
        CourtMail y = linked(12);
        Checks.file(y, 0, "@0");
        Checks.file(y, 0, "no mark");
        Checks.file(y, 0, "");
        exhibitIs(y, 0, 0, 1, 1000, 12, 0, 1, 1);
        exhibitIs(y, 1, 1, ROOM, 1001, 0, 0, 1, 0);
        Checks.file(y, 1, "@1");
        exhibitIs(y, 0, 0, 1, 1000, 12, 0, 1, 1);
        exhibitIs(y, 1, 1, ROOM, 1001, 0, 0, 1, 1);
    }

    private static void admitted(String what, CourtMail x, int due) {
        c.due(what, x.exhibit(0, 5), due);
        c.due(what + ", of the case", x.caseOf(0, 3), due);
    }

    /** "in the room or with a judge or a clerk, ... no gap, nobody of the public ever got it, ... not opened by others" */
    private static void admittedAtEachEdge() {
        int[] with = {1, 1, 0, 0};
        int[] behind = {1, 1, 1, 0};
        int[] opened = {0, 1, 0, 0};
        for (int who = 0; who <= 3; who++) {
            CourtMail x = room();
            x.hand(0, who);
            admitted("with " + who, x, with[who]);
            x.hand(0, ROOM);
            admitted("in the room behind " + who, x, behind[who]);
            x.hand(0, who);
            x.unseal(0);
            admitted("opened, with " + who, x, opened[who]);
            x.hand(0, ROOM);
            admitted("opened by " + who + ", in the room", x, opened[who]);
        }
        for (int by = ROOM; by <= 3; by++) {
            CourtMail x = room();
            x.lose(0);
            admitted("lost", x, 0);
            x.found(0, by);
            admitted("found by " + by, x, 0);
            if (by != 1) {
                x.hand(0, 1);
            }
            admitted("found by " + by + ", with a judge", x, 0);
        }
        CourtMail x = linked(12);
        admitted("behind twelve links", x, 1);
        x.lose(0);
        admitted("lost behind twelve links", x, 0);
    }

    private static void linkTakesItsBounds() {
        c.range(() -> {
            CourtMail x = held();
            x.hand(1, 1);
            return x;
        }, "link: exhibit", 0, 1, Checks.NO_INDEX, (x, n) -> x.link(n, 0, 0));
        for (int links = 1; links <= 12; links += 11) {
            int n = links;
            c.range(() -> linked(n), "link of " + n, 0, n - 1, Checks.NO_INDEX, (x, k) -> x.link(0, k, 0));
        }
        for (int k : new int[] {-1, 0, 1}) {
            c.refusedIn(ExhibitEdgesTest::room, "link of none", Checks.NO_INDEX, x -> x.link(0, k, 0));
            // another one's chain is no help
            c.refusedIn(ExhibitEdgesTest::held, "link of none beside one", Checks.NO_INDEX, x -> x.link(1, k, 0));
        }
        c.range(ExhibitEdgesTest::held, "link: what", 0, 3, Checks.NO_INDEX, (x, n) -> x.link(0, 0, n));
        c.due("losing is no link", lost().exhibit(0, 3), 1);
        c.refusedIn(ExhibitEdgesTest::lost, "the link of losing", Checks.NO_INDEX, x -> x.link(0, 1, 0));
    }

    private static void linkTellsTheFirstAndTheLast() {
        CourtMail x = room();
        x.hand(0, 3);
        for (int i = 0; i < 10; i++) {
            x.pass(100);
            x.hand(0, i % 2);
        }
        x.hand(0, ROOM);
        linkIs(x, 0, 0, 0, ROOM, 3, 0);
        linkIs(x, 0, 1, 100, 3, 0, 0);
        linkIs(x, 0, 10, 1000, 0, 1, 0);
        linkIs(x, 0, 11, 1000, 1, ROOM, 0);
    }
}
