/** Promises 22 to 28: takeIn, hand, unseal, lose, found, exhibit, link. */
public final class ExhibitsTest {
    private static final Checks c = new Checks();

    public static void main(String[] args) {
        takeInNumbers();
        handLinks();
        handRefuses();
        unsealOpens();
        unsealRefuses();
        loseAndFound();
        loseRefuses();
        foundRefuses();
        fullChains();
        admittedOrNot();
        exhibitTells();
        exhibitRefuses();
        linkRefuses();
        c.end();
    }

    /** Cases 0 (seal 0) and 1 (seal 5); a clerk 0, a judge 1, a lawyer 2, public 3, and a judge 4. */
    private static CourtMail room() {
        CourtMail x = new CourtMail();
        x.open(0);
        x.open(5);
        x.addPerson(0, 0);
        x.addPerson(1, 0);
        x.addPerson(2, 3);
        x.addPerson(3, 4);
        x.addPerson(1, 9);
        return x;
    }

    private static void isLink(CourtMail x, int exhibit, int link, int... due) {
        for (int what = 0; what <= 3; what++) {
            c.due("link(" + exhibit + ", " + link + ", " + what + ")", x.link(exhibit, link, what), due[what]);
        }
    }

    private static void takeInNumbers() {
        CourtMail x = new CourtMail();
        c.refused("takeIn(0) without cases", x, Checks.NO_INDEX, () -> x.takeIn(0));
        x.open(0);
        x.open(9);
        c.refused("takeIn(-1)", x, Checks.NO_INDEX, () -> x.takeIn(-1));
        c.refused("takeIn(2)", x, Checks.NO_INDEX, () -> x.takeIn(2));
        for (int i = 0; i < 20; i++) {
            c.due("takeIn " + i, x.takeIn(i % 2), i);
            c.due("its case", x.exhibit(i, 0), i % 2);
            c.due("its seal number", x.exhibit(i, 2), 1000 + i);
        }
        c.due("exhibits", x.count(4), 20);
        c.refused("a 21st", x, Checks.NO_STATE, () -> x.takeIn(0));
        c.refused("a 21st of no case", x, Checks.NO_INDEX, () -> x.takeIn(2));
        // the twentieth can be marked as well as the first
        c.due("mark the last", Checks.file(x, 1, "@19"), 0);
        c.due("it is marked", x.exhibit(19, 6), 1);
        x.addPerson(1, 0);
        c.due("its text", Checks.read(x, 0, 0), "Ex. 19");
        c.due("mark more", Checks.file(x, 0, "@18@10@008"), 1);
        c.due("their text", Checks.read(x, 0, 1), "Ex. 18Ex. 10Ex. 8");
    }

    private static void handLinks() {
        CourtMail x = room();
        x.takeIn(0);
        x.takeIn(1);
        c.due("to the lawyer", x.hand(0, 2), 1);
        x.pass(3);
        c.due("to public", x.hand(0, 3), 2);
        c.due("to the room", x.hand(0, -1), 3);
        c.due("who has it", x.exhibit(0, 1), -1);
        c.due("to the clerk", x.hand(0, 0), 4);
        c.due("who has it", x.exhibit(0, 1), 0);
        isLink(x, 0, 0, 0, -1, 2, 0);
        isLink(x, 0, 1, 3, 2, 3, 0);
        isLink(x, 0, 2, 3, 3, -1, 0);
        isLink(x, 0, 3, 3, -1, 0, 0);
        c.due("the other has no links", x.exhibit(1, 3), 0);
        c.due("to a judge", x.hand(1, 1), 1);
        x.attach(2, 1);
        c.due("to a lawyer who is attached", x.hand(1, 2), 2);
        c.due("exhibits of the lawyer", x.person(2, 6), 1);
        x.attach(2, 1);
        c.due("it stays", x.exhibit(1, 1), 2);
        c.due("and can go to the room", x.hand(1, -1), 3);
    }

    private static void handRefuses() {
        CourtMail x = room();
        c.refused("no exhibit", x, Checks.NO_INDEX, () -> x.hand(0, 0));
        c.refused("no exhibit to the room", x, Checks.NO_INDEX, () -> x.hand(0, -1));
        x.takeIn(0);
        x.takeIn(1);
        c.refused("hand(-1, 0)", x, Checks.NO_INDEX, () -> x.hand(-1, 0));
        c.refused("hand(2, 0)", x, Checks.NO_INDEX, () -> x.hand(2, 0));
        c.refused("hand(0, -2)", x, Checks.NO_INDEX, () -> x.hand(0, -2));
        c.refused("hand(0, 5)", x, Checks.NO_INDEX, () -> x.hand(0, 5));
        c.refused("in the room already", x, Checks.NO_STATE, () -> x.hand(0, -1));
        c.refused("one who cannot see into the case", x, Checks.NO_STATE, () -> x.hand(1, 3));
        x.hand(0, 2);
        c.refused("there already", x, Checks.NO_STATE, () -> x.hand(0, 2));
        x.lose(0);
        c.refused("lost", x, Checks.NO_STATE, () -> x.hand(0, 0));
        c.refused("lost, to who had it", x, Checks.NO_STATE, () -> x.hand(0, 2));
        c.refused("lost, to the room", x, Checks.NO_STATE, () -> x.hand(0, -1));
        c.refused("lost, to nobody there is", x, Checks.NO_INDEX, () -> x.hand(0, 5));
    }

    private static void unsealOpens() {
        CourtMail x = room();
        x.takeIn(0);
        x.takeIn(0);
        x.hand(1, 1);
        x.pass(10);
        c.due("unseal on day 10", x.unseal(1), (1001 * 31 + 10) % 10007);
        c.due("its seal number", x.exhibit(1, 2), (1001 * 31 + 10) % 10007);
        isLink(x, 1, 1, 10, 1, 1, 2);
        x.pass(100);
        c.due("unseal on day 110", x.unseal(1), ((1001 * 31 + 10) % 10007 * 31 + 110) % 10007);
        c.due("links", x.exhibit(1, 3), 3);
        c.due("the judge has it", x.exhibit(1, 1), 1);
        c.due("the other is as before", x.exhibit(0, 2), 1000);
        // a day that is greater than the divisor
        CourtMail y = room();
        y.takeIn(0);
        y.hand(0, 1);
        for (int i = 0; i < 110; i++) {
            y.pass(100);
        }
        c.due("unseal on day 11000", y.unseal(0), (1000 * 31 + 11000) % 10007);
    }

    private static void unsealRefuses() {
        CourtMail x = room();
        c.refused("no exhibit", x, Checks.NO_INDEX, () -> x.unseal(0));
        x.takeIn(0);
        c.refused("unseal(-1)", x, Checks.NO_INDEX, () -> x.unseal(-1));
        c.refused("unseal(1)", x, Checks.NO_INDEX, () -> x.unseal(1));
        c.refused("in the room", x, Checks.NO_STATE, () -> x.unseal(0));
        x.hand(0, 1);
        x.lose(0);
        c.refused("lost", x, Checks.NO_STATE, () -> x.unseal(0));
    }

    private static void loseAndFound() {
        CourtMail x = room();
        x.takeIn(0);
        x.takeIn(1);
        c.due("lose one in the room", x.lose(0), -1);
        c.due("it is lost", x.exhibit(0, 1), -2);
        c.due("no link", x.exhibit(0, 3), 0);
        c.due("lost ones", x.count(10), 1);
        x.pass(7);
        c.due("found by the lawyer", x.found(0, 2), 1);
        isLink(x, 0, 0, 7, -1, 2, 1);
        c.due("the lawyer has it", x.exhibit(0, 1), 2);
        c.due("gaps", x.exhibit(0, 4), 1);
        c.due("lost ones", x.count(10), 0);
        c.due("lose one with the lawyer", x.lose(0), 2);
        c.due("found in the room", x.found(0, -1), 2);
        isLink(x, 0, 1, 7, -1, -1, 1);
        c.due("it is in the room", x.exhibit(0, 1), -1);
        c.due("gaps", x.exhibit(0, 4), 2);
        c.due("hand it over", x.hand(0, 1), 3);
        x.lose(0);
        c.due("found by the judge who had it", x.found(0, 1), 4);
        x.lose(1);
        c.due("found by one who cannot see into the case", x.found(1, 3), 1);
        c.due("this one has it", x.exhibit(1, 1), 3);
    }

    private static void loseRefuses() {
        CourtMail x = room();
        c.refused("no exhibit", x, Checks.NO_INDEX, () -> x.lose(0));
        x.takeIn(0);
        c.refused("lose(-1)", x, Checks.NO_INDEX, () -> x.lose(-1));
        c.refused("lose(1)", x, Checks.NO_INDEX, () -> x.lose(1));
        x.lose(0);
        c.refused("lost already", x, Checks.NO_STATE, () -> x.lose(0));
    }

    private static void foundRefuses() {
        CourtMail x = room();
        c.refused("no exhibit", x, Checks.NO_INDEX, () -> x.found(0, 0));
        x.takeIn(0);
        c.refused("not lost", x, Checks.NO_STATE, () -> x.found(0, 0));
        c.refused("not lost, in the room", x, Checks.NO_STATE, () -> x.found(0, -1));
        c.refused("not lost, by nobody there is", x, Checks.NO_INDEX, () -> x.found(0, 5));
        x.lose(0);
        c.refused("found(-1, 0)", x, Checks.NO_INDEX, () -> x.found(-1, 0));
        c.refused("found(1, 0)", x, Checks.NO_INDEX, () -> x.found(1, 0));
        c.refused("found(0, -2)", x, Checks.NO_INDEX, () -> x.found(0, -2));
        c.refused("found(0, 5)", x, Checks.NO_INDEX, () -> x.found(0, 5));
    }

    private static void fullChains() {
        CourtMail x = room();
        x.takeIn(0);
        for (int i = 1; i <= 11; i++) {
            c.due("hand " + i, x.hand(0, i % 2), i);
        }
        x.unseal(0);
        c.due("twelve links", x.exhibit(0, 3), 12);
        c.refused("hand a 13th", x, Checks.NO_STATE, () -> x.hand(0, 0));
        c.refused("hand a 13th to the room", x, Checks.NO_STATE, () -> x.hand(0, -1));
        c.refused("unseal a 13th", x, Checks.NO_STATE, () -> x.unseal(0));
        c.due("lose it, which is no link", x.lose(0), 1);
        c.refused("find a 13th", x, Checks.NO_STATE, () -> x.found(0, 0));
        c.due("it is lost", x.exhibit(0, 1), -2);
        isLink(x, 0, 11, 0, 1, 1, 2);
        x.takeIn(0);
        for (int i = 1; i <= 12; i++) {
            x.lose(1);
            c.due("find " + i, x.found(1, i % 3), i);
        }
        c.due("gaps", x.exhibit(1, 4), 12);
        c.refused("hand behind twelve gaps", x, Checks.NO_STATE, () -> x.hand(1, 1));
        c.refused("unseal behind twelve gaps", x, Checks.NO_STATE, () -> x.unseal(1));
    }

    private static void admitted(CourtMail x, String why, int due) {
        c.due(why, x.exhibit(0, 5), due);
        c.due(why + ", of the case", x.caseOf(0, 3), due);
    }

    private static CourtMail oneExhibit() {
        CourtMail x = room();
        x.takeIn(0);
        return x;
    }

    private static void admittedOrNot() {
        CourtMail x = oneExhibit();
        admitted(x, "in the room", 1);
        x.hand(0, 0);
        admitted(x, "with a clerk", 1);
        x.hand(0, 1);
        admitted(x, "with a judge", 1);
        x.unseal(0);
        admitted(x, "opened by a judge", 1);
        x.hand(0, 2);
        admitted(x, "with a lawyer", 0);
        x.hand(0, 4);
        admitted(x, "behind a lawyer", 1);
        x.hand(0, -1);
        admitted(x, "in the room again", 1);
        x.lose(0);
        admitted(x, "lost", 0);
        x.found(0, 1);
        admitted(x, "behind a gap", 0);

        CourtMail publicGot = oneExhibit();
        publicGot.hand(0, 3);
        admitted(publicGot, "with public", 0);
        publicGot.hand(0, 1);
        admitted(publicGot, "behind public", 0);

        for (int who : new int[] {0, 2}) {
            CourtMail opened = oneExhibit();
            opened.hand(0, who);
            opened.unseal(0);
            opened.hand(0, -1);
            admitted(opened, "opened by " + who, 0);
        }

        CourtMail room = oneExhibit();
        room.lose(0);
        room.found(0, -1);
        admitted(room, "found in the room", 0);
    }

    private static void exhibitTells() {
        CourtMail x = room();
        x.takeIn(0);
        x.takeIn(1);
        Checks.file(x, 1, "@1 @1");
        Checks.file(x, 1, "[9:@001]");
        Checks.file(x, 0, "@0");
        Checks.file(x, 0, "Ex. 1");
        int[] fresh = {1, -1, 1001, 0, 0, 1, 2};
        for (int what = 0; what <= 6; what++) {
            c.due("exhibit(1, " + what + ")", x.exhibit(1, what), fresh[what]);
        }
        x.hand(1, 4);
        x.lose(1);
        x.found(1, 2);
        x.unseal(1);
        int[] then = {1, 2, 1001 * 31 % 10007, 3, 1, 0, 2};
        for (int what = 0; what <= 6; what++) {
            c.due("then: exhibit(1, " + what + ")", x.exhibit(1, what), then[what]);
        }
        c.due("documents that mark 0", x.exhibit(0, 6), 1);
    }

    private static void exhibitRefuses() {
        CourtMail x = room();
        c.refused("exhibit(0, 0) without any", x, Checks.NO_INDEX, () -> x.exhibit(0, 0));
        x.takeIn(0);
        c.refused("exhibit(-1, 0)", x, Checks.NO_INDEX, () -> x.exhibit(-1, 0));
        c.refused("exhibit(1, 0)", x, Checks.NO_INDEX, () -> x.exhibit(1, 0));
        c.refused("exhibit(0, -1)", x, Checks.NO_INDEX, () -> x.exhibit(0, -1));
        c.refused("exhibit(0, 7)", x, Checks.NO_INDEX, () -> x.exhibit(0, 7));
    }

    private static void linkRefuses() {
        CourtMail x = room();
        c.refused("link(0, 0, 0) without exhibits", x, Checks.NO_INDEX, () -> x.link(0, 0, 0));
        x.takeIn(0);
        c.refused("link(0, 0, 0) without links", x, Checks.NO_INDEX, () -> x.link(0, 0, 0));
        x.hand(0, 0);
        c.refused("link(-1, 0, 0)", x, Checks.NO_INDEX, () -> x.link(-1, 0, 0));
        c.refused("link(1, 0, 0)", x, Checks.NO_INDEX, () -> x.link(1, 0, 0));
        c.refused("link(0, -1, 0)", x, Checks.NO_INDEX, () -> x.link(0, -1, 0));
        c.refused("link(0, 1, 0)", x, Checks.NO_INDEX, () -> x.link(0, 1, 0));
        c.refused("link(0, 0, -1)", x, Checks.NO_INDEX, () -> x.link(0, 0, -1));
        c.refused("link(0, 0, 4)", x, Checks.NO_INDEX, () -> x.link(0, 0, 4));
    }
}
