import java.util.function.Consumer;
import java.util.function.Supplier;

/** Promises 1 to 7, and "1. Documents": a test for each sentence that names an edge. */
public final class DocumentEdgesTest {
    private static final Checks c = new Checks();
    private static final int DEEPEST = 5;

    public static void main(String[] args) {
        aNewRoomHasNothing();
        aNewRoomTakesWhatNeedsNothing();
        roomsAreApart();
        feedFromTheEmptyTapeToTheFull();
        feedRefusesTheByteBehindTheThousandth();
        feedPutsEachByteInItsPlace();
        feedTakesEveryNumber();
        trimTakesNoneToAll();
        trimKeepsTheFirstBytes();
        fileNeedsACase();
        fileUpToTheTwentyFourth();
        fileInAFullRoomReadsNothing();
        fileTakesTheEmptyTapeAndTheFull();
        everyByteBehindEveryBeginning();
        depthIsFiveAtMost();
        errorOneIsTheFirstByte();
        errorOneAtTheEndIsTheLength();
        errorTwoIsTheFirstExhibit();
        errorTwoAtTheEdgesOfTheCase();
        numbersLoseTheirZeros();
        numbersEndBehindThreeDigits();
        levelsAreTheGreatestAround();
        marksLeaveOutTheFirst();
        errorAtBeforeAndBehindReading();
        veilTakesItsBounds();
        veilRefusesInOrder();
        veilCountsTheOthers();
        documentTellsItsEdges();
        documentNeedsANumberAndAWhat();
        c.end();
    }

    /** Cases 0 to 7; a judge 0, public 1 without clearance, public 2 with 4; exhibits 0 to 19, only the 7th of case 1. */
    private static CourtMail room() {
        CourtMail x = new CourtMail();
        for (int i = 0; i < 8; i++) {
            x.open(0);
        }
        x.addPerson(1, 0);
        x.addPerson(3, 0);
        x.addPerson(3, 4);
        for (int i = 0; i < 20; i++) {
            x.takeIn(i == 7 ? 1 : 0);
        }
        return x;
    }

    private static CourtMail roomWithTape(String text) {
        CourtMail x = room();
        Checks.write(x, text);
        return x;
    }

    private static CourtMail roomWith(String... texts) {
        CourtMail x = room();
        for (String text : texts) {
            Checks.file(x, 0, text);
        }
        return x;
    }

    private static CourtMail roomWithBytes(int n) {
        CourtMail x = room();
        for (int i = 0; i < n; i += 20) {
            x.feed(0x61626364, 0x65666768, 0x696A6B6C, 0x6D6E6F70, 0x71727374);
        }
        x.trim(n);
        return x;
    }

    private static CourtMail fullRoom() {
        CourtMail x = room();
        for (int i = 0; i < 24; i++) {
            Checks.file(x, i % 8, "d" + (char) ('a' + i));
        }
        return x;
    }

    // ---- promise 1

    private static void noIndex(String what, Consumer<CourtMail> call) {
        c.refusedIn(CourtMail::new, "new: " + what, Checks.NO_INDEX, call);
    }

    /** "without cases, people and documents": each number 0 stands for nothing, -1 is the room where the room can be. */
    private static void aNewRoomHasNothing() {
        noIndex("file", x -> x.file(0));
        noIndex("veil", x -> x.veil(0, 0, 0, 0));
        noIndex("document", x -> x.document(0, 0));
        noIndex("seal", x -> x.seal(0, 0));
        noIndex("attach", x -> x.attach(0, 0));
        noIndex("person", x -> x.person(0, 0));
        noIndex("caseOf", x -> x.caseOf(0, 0));
        noIndex("read", x -> x.read(0, 0));
        noIndex("byteAt", x -> x.byteAt(0));
        noIndex("hidden", x -> x.hidden(0, 0));
        noIndex("differs", x -> x.differs(0, 0, 0));
        noIndex("find", x -> x.find(0, 0));
        noIndex("least", x -> x.least(0, 0, 0));
        noIndex("lend", x -> x.lend(0, 0, 1));
        noIndex("back", x -> x.back(0));
        noIndex("takeIn", x -> x.takeIn(0));
        noIndex("hand", x -> x.hand(0, -1));
        noIndex("unseal", x -> x.unseal(0));
        noIndex("lose", x -> x.lose(0));
        noIndex("found", x -> x.found(0, -1));
        noIndex("exhibit", x -> x.exhibit(0, 0));
        noIndex("link", x -> x.link(0, 0, 0));
        noIndex("send", x -> x.send(0, 0, 0));
        noIndex("letter", x -> x.letter(0, 0));
        noIndex("arrives", x -> x.arrives(0));
        noIndex("sees", x -> x.sees(0));
    }

    private static void aNewRoomTakesWhatNeedsNothing() {
        c.due("new: count(0), the day", new CourtMail().count(0), 0);
        c.due("new: errorAt", new CourtMail().errorAt(), -1);
        c.due("new: trim(0)", new CourtMail().trim(0), 0);
        c.due("new: feed", new CourtMail().feed(0, 0, 0, 0, 0), 20);
        c.due("new: open", new CourtMail().open(0), 0);
        c.due("new: addPerson", new CourtMail().addPerson(0, 0), 0);
        c.due("new: plain", new CourtMail().plain(), 1.0);
        CourtMail x = new CourtMail();
        c.due("new: pass(100)", x.pass(100), 0);
        c.due("the day behind it", x.count(0), 100);
    }

    private static void roomsAreApart() {
        CourtMail x = new CourtMail();
        long before = x.digest();
        CourtMail y = fullRoom();
        y.pass(3);
        y.read(0, 0);
        c.due("a room beside a full one", x.digest(), before);
        Checks.file(room(), 0, "abc]");
        c.due("errorAt beside an error", x.errorAt(), -1);
    }

    // ---- promises 2 and 3

    private static void feedFromTheEmptyTapeToTheFull() {
        CourtMail x = room();
        for (int length = 20; length <= 1000; length += 20) {
            c.due("feed to " + length, x.feed(0, 0, 0, 0, 0), length);
            c.due("count(8) at " + length, x.count(8), length);
        }
    }

    /** "if there would be more than 1000": 980 and 20 are just 1000. */
    private static void feedRefusesTheByteBehindTheThousandth() {
        for (int length : new int[] {0, 1, 979, 980}) {
            c.due("feed on " + length, roomWithBytes(length).feed(0, 0, 0, 0, 0), length + 20);
        }
        for (int length = 981; length <= 1000; length++) {
            int n = length;
            c.refusedIn(() -> roomWithBytes(n), "feed on " + n, Checks.NO_STATE, x -> x.feed(-1, -1, -1, -1, -1));
        }
    }

    /** Twenty blanks but for one byte 200, which no document has: errorAt() tells where it is. */
    private static void feedPutsEachByteInItsPlace() {
        for (int before : new int[] {0, 20, 7, 980}) {
            for (int place = 0; place < 20; place++) {
                CourtMail x = roomWithBytes(before);
                int[] n = {0x20202020, 0x20202020, 0x20202020, 0x20202020, 0x20202020};
                int shift = 24 - 8 * (place % 4);
                n[place / 4] = n[place / 4] & ~(255 << shift) | 200 << shift;
                c.due("feed", x.feed(n[0], n[1], n[2], n[3], n[4]), before + 20);
                c.due("file", x.file(0), -1);
                c.due("place " + place + " behind " + before, x.errorAt(), before + place);
            }
        }
    }

    private static void feedTakesEveryNumber() {
        for (int n : new int[] {0, -1, Integer.MIN_VALUE, Integer.MAX_VALUE, 255, 256}) {
            CourtMail x = room();
            c.due("feed " + n, x.feed(n, n, n, n, n), 20);
            c.due("feed " + n + " again", x.feed(0x61616161, n, n, n, n), 40);
            x.file(0);
            c.due("its first byte is none of a document", x.errorAt(), 0);
        }
        CourtMail x = room();
        x.feed(0x7E20207E, 0x0A7E7E0A, 0x20202020, 0x7E7E7E7E, 0x0A20207E);
        c.due("the least and the greatest plain bytes", x.file(0), 0);
        c.due("as they are", Checks.read(x, 0, 0), "~  ~\n~~\n    ~~~~\n  ~");
    }

    /** "if n is not 0 to the number of bytes of the tape" */
    private static void trimTakesNoneToAll() {
        for (int length : new int[] {0, 1, 19, 20, 999, 1000}) {
            c.range(() -> roomWithBytes(length), "trim of " + length, 0, length, Checks.NO_ARGUMENT, CourtMail::trim);
            c.due("trim to all", roomWithBytes(length).trim(length), length);
            c.due("trim to none", roomWithBytes(length).trim(0), 0);
        }
    }

    private static void trimKeepsTheFirstBytes() {
        for (int n : new int[] {0, 1, 19, 20, 21, 39, 40}) {
            String text = "ABCDEFGHIJKLMNOPQRSTabcdefghijklmnopqrst";
            CourtMail x = roomWithTape(text);
            c.due("trim(" + n + ")", x.trim(n), n);
            c.due("count(8)", x.count(8), n);
            Checks.write(x, "!");
            x.file(0);
            c.due("trimmed to " + n, Checks.read(x, 0, 0), text.substring(0, n) + "!");
        }
    }

    // ---- promise 4

    private static void fileNeedsACase() {
        c.range(() -> roomWithTape("a{Bc}[3:d]@1"), "file of 8 cases", 0, 7, Checks.NO_INDEX, CourtMail::file);
        c.range(() -> {
            CourtMail x = new CourtMail();
            x.open(9);
            Checks.write(x, "tape");
            return x;
        }, "file of one case", 0, 0, Checks.NO_INDEX, CourtMail::file);
    }

    private static void fileUpToTheTwentyFourth() {
        CourtMail x = room();
        for (int i = 0; i < 24; i++) {
            // what is no document takes no number
            c.due("error 1 before " + i, Checks.file(x, 0, "]"), -1);
            c.due("error 2 before " + i, Checks.file(x, 0, "@7"), -2);
            c.due("document " + i, Checks.file(x, i % 8, "d"), i);
            c.due("its case", x.document(i, 0), i % 8);
            c.due("documents", x.count(3), i + 1);
        }
        c.refused("a 25th", x, Checks.NO_STATE, () -> x.file(0));
    }

    /** "there are 24 documents" goes ahead of all reading, and behind "there is no such case". */
    private static void fileInAFullRoomReadsNothing() {
        for (String tape : new String[] {"", "fine", "bad]", "@7", "[3:"}) {
            Supplier<CourtMail> full = () -> {
                CourtMail x = fullRoom();
                Checks.write(x, tape);
                return x;
            };
            c.refusedIn(full, "a 25th <" + tape + ">", Checks.NO_STATE, x -> x.file(0));
            c.refusedIn(full, "a 25th <" + tape + "> of no case", Checks.NO_INDEX, x -> x.file(8));
            c.refusedIn(full, "a 25th <" + tape + "> of the case -1", Checks.NO_INDEX, x -> x.file(-1));
        }
        CourtMail x = fullRoom();
        Checks.write(x, "dc");
        c.refused("a 25th", x, Checks.NO_STATE, () -> x.file(0));
        c.due("the tape is not empty behind it", x.count(8), 2);
        c.due("and has its bytes", x.find(0, 2), 0);
        c.due("errorAt stays", x.errorAt(), -1);
    }

    private static void fileTakesTheEmptyTapeAndTheFull() {
        CourtMail x = room();
        c.due("an empty tape", x.file(0), 0);
        c.due("has no bytes", x.document(0, 1), 0);
        c.due("errorAt", x.errorAt(), -1);
        CourtMail y = roomWithBytes(1000);
        c.due("a full tape", y.file(0), 0);
        c.due("is empty behind it", y.count(8), 0);
        c.due("has a thousand bytes", y.document(0, 1), 1000);
        c.due("and can be filled again", y.feed(0, 0, 0, 0, 0), 20);
        CourtMail w = room();
        Checks.write(w, Checks.times("@0", 500));
        c.due("the most text", w.file(0), 0);
        c.due("its bytes", w.document(0, 1), 2500);
        c.due("all on the paper", w.read(0, 0), 2500);
        c.due("the last of them", w.byteAt(2499), '0');
        c.refused("the one behind", w, Checks.NO_INDEX, () -> w.byteAt(2500));
    }

    private static boolean isPlain(int b) {
        return b == 10 || b >= 32 && b <= 126 && "[]{}@".indexOf(b) < 0;
    }

    private static boolean isDigit(int b) {
        return b >= '0' && b <= '9';
    }

    private static boolean isLetter(int b) {
        return b >= 'A' && b <= 'Z' || b >= 'a' && b <= 'z';
    }

    private static boolean startsPart(int b) {
        return isPlain(b) || b == '[' || b == '{' || b == '@';
    }

    /** Whether the byte can come behind the bytes; what they end in is known by their number here. */
    private static boolean canFollow(int beginning, int b) {
        switch (beginning) {
            case 0: case 1: return startsPart(b);
            case 2: case 3: return startsPart(b) || b == ']';
            case 4: return isPlain(b) || b == '{' || b == '@' || b == ']';
            case 5: case 6: return b >= '1' && b <= '9';
            case 7: return b == ':';
            case 8: return isLetter(b);
            case 9: case 10: return isLetter(b) || b == '}';
            case 11: return b == '}';
            case 12: return isDigit(b);
            case 13: case 14: return isDigit(b) || startsPart(b);
            case 15: return startsPart(b);
            default: return isDigit(b) || startsPart(b) || b == ']';
        }
    }

    /** Each of the 256 bytes behind each way in which a document can have begun: "the first byte with which ..." */
    private static void everyByteBehindEveryBeginning() {
        String[] beginnings = {"", "ab", "[1:", "[9:[1:x]", Checks.times("[1:", DEEPEST), "[", "[2:[", "[5", "{", "{Z",
            "{abcdefghijk", "{abcdefghijkl", "@", "@0", "@00", "@000", "[3:@0"};
        for (int i = 0; i < beginnings.length; i++) {
            CourtMail x = null;
            for (int b = 0; b <= 255; b++) {
                if (b % 24 == 0) {
                    // anew, for the room takes 24 documents at most
                    x = room();
                }
                int length = beginnings[i].length();
                int answer = Checks.file(x, 0, beginnings[i] + (char) b);
                boolean good = canFollow(i, b);
                c.due("<" + beginnings[i] + "> refuses the byte " + b, x.errorAt() == length, !good);
                c.due("<" + beginnings[i] + "> and the byte " + b + " has an error", answer == -1 || good, true);
            }
        }
    }

    private static void filed(String text, int answer, int errorAt) {
        CourtMail x = room();
        c.due("file <" + text + ">", Checks.file(x, 0, text), answer);
        c.due("errorAt() of <" + text + ">", x.errorAt(), errorAt);
        c.due("the tape behind <" + text + ">", x.count(8), 0);
    }

    private static void text(String tape, String text) {
        CourtMail x = room();
        c.due("file <" + tape + ">", Checks.file(x, 0, tape), 0);
        c.due("text of <" + tape + ">", Checks.read(x, 0, 0), text);
    }

    private static void depthIsFiveAtMost() {
        for (int depth = 0; depth <= DEEPEST; depth++) {
            String open = Checks.times("[1:", depth);
            String close = Checks.times("]", depth);
            text(open + "x" + close, "x");
            // as deep again behind what was closed
            text(open + close + open + "y" + close, "y");
            filed(open + "x" + close + "]", -1, 4 * depth + 1);
            filed(open + "x", depth == 0 ? 0 : -1, depth == 0 ? -1 : 3 * depth + 1);
        }
        String deepest = Checks.times("[1:", DEEPEST);
        filed(deepest + "[", -1, 15);
        filed(deepest + "[1:x]]]]]]", -1, 15);
        filed(deepest + "]" + "[1:a]" + "]]]][1:[2:b]]", 0, -1);
        filed(deepest + "]" + "[1:a[", -1, 20);
    }

    private static void errorOneIsTheFirstByte() {
        filed("]", -1, 0);
        filed("]]", -1, 0);
        filed("a]b}c", -1, 1);
        filed("a}b]c", -1, 1);
        filed("{a}{}", -1, 4);
        filed("[1:a][0:b]", -1, 6);
        // ahead of error 2, which would be earlier on the tape
        filed("@7]", -1, 2);
        filed("@7@999{", -1, 7);
        filed("@7[1:@7", -1, 7);
        filed("@7" + Checks.times("[1:", DEEPEST) + "[", -1, 17);
    }

    private static void errorOneAtTheEndIsTheLength() {
        for (String open : new String[] {"[", "[1", "[1:", "[1:a", "[1:{a}", "[1:@0", "[1:[2:a]", "{", "{a",
            "{abcdefghijkl", "@", "a@", "@0@", "[1:@"}) {
            filed(open, -1, open.length());
            filed("ab" + open, -1, open.length() + 2);
        }
        // what could end there is whole
        for (String whole : new String[] {"", "a", "[1:]", "{a}", "@0", "@00", "@000", "@0000", "[1:a]\n"}) {
            filed(whole, 0, -1);
        }
        filed(Checks.times("x", 999) + "{", -1, 1000);
        filed(Checks.times("x", 998) + "[9", -1, 1000);
        filed(Checks.times("x", 997) + "@19", 0, -1);
        filed(Checks.times("x", 998) + "@7", -2, 998);
    }

    private static void errorTwoIsTheFirstExhibit() {
        filed("@7", -2, 0);
        filed("@007", -2, 0);
        filed("@0@7@20", -2, 2);
        filed("@20@7", -2, 0);
        filed("@0071", -2, 0);
        filed("[1:{a}@0][2:@20]@7", -2, 12);
    }

    private static void errorTwoAtTheEdgesOfTheCase() {
        text("@0 @19 @6 @8", "Ex. 0 Ex. 19 Ex. 6 Ex. 8");
        for (int number : new int[] {7, 20, 21, 31, 32, 39, 63, 64, 96, 99, 100, 128, 256, 288, 512, 999}) {
            filed("x@" + number, -2, 1);
        }
        CourtMail x = room();
        c.due("@7 in its own case", Checks.file(x, 1, "@7"), 0);
        c.due("@6 in the case of 7", Checks.file(x, 1, "@6"), -2);
        c.due("@0 in a case without exhibits", Checks.file(x, 2, "@0"), -2);
        CourtMail y = new CourtMail();
        y.open(0);
        c.due("@0 without any exhibit", Checks.file(y, 0, "@0"), -2);
        y.takeIn(0);
        c.due("@0, the only one", Checks.file(y, 0, "@0"), 0);
        c.due("@1, the next to come", Checks.file(y, 0, "@1"), -2);
        c.due("what marked 0", y.exhibit(0, 6), 1);
        // a tape that marked and failed leaves no mark to the next document
        c.due("an error behind @0", Checks.file(y, 0, "@0]"), -1);
        c.due("@0 and another's", Checks.file(y, 0, "@0@1"), -2);
        c.due("no mark", Checks.file(y, 0, "0"), 1);
        c.due("what marked 0", y.exhibit(0, 6), 1);
    }

    private static void numbersLoseTheirZeros() {
        text("@0", "Ex. 0");
        text("@00", "Ex. 0");
        text("@000", "Ex. 0");
        text("@9", "Ex. 9");
        text("@09", "Ex. 9");
        text("@009", "Ex. 9");
        text("@10", "Ex. 10");
        text("@010", "Ex. 10");
        text("@19", "Ex. 19");
        text("@019", "Ex. 19");
        text("@1", "Ex. 1");
        text("@001", "Ex. 1");
    }

    private static void numbersEndBehindThreeDigits() {
        text("@0190", "Ex. 190");
        text("@0009", "Ex. 09");
        text("@0123@0", "Ex. 123Ex. 0");
        text("@1a2", "Ex. 1a2");
        text("@12\n", "Ex. 12\n");
        text("[1:@1]9", "Ex. 19");
        // the fourth digit is none of the number: 190 is no exhibit, 019 is
        filed("@190", -2, 0);
    }

    /** The level of each byte of the document, from the reach with which it is seen; none of them may be # or a mark. */
    private static String levels(CourtMail x, int document) {
        StringBuilder s = new StringBuilder();
        for (int i = 0; i < x.document(document, 1); i++) {
            s.append(x.least(document, i, i + 1));
        }
        return s.toString();
    }

    private static void levelsAreTheGreatestAround() {
        String[][] due = {{"ab", "00"}, {"[1:a]", "1"}, {"[9:a]b", "90"}, {"a[2:b[5:c]d]e", "02520"},
            {"a[5:b[2:c]d]e", "05550"}, {"[1:a[2:b[3:c[4:d[5:e]f]g]h]i]j", "1234543210"},
            {"[5:a[4:b[3:c[2:d[1:e]f]g]h]i]j", "5555555550"}, {"[3:a[1:b[9:c]d[4:e]f]g]", "3393433"},
            {"[7:@10]@1", "77777700000"}, {"[4:][2:a]", "2"}, {"[2:{A}]{B}", "20"}, {"[6:\n]", "0"}};
        for (String[] one : due) {
            CourtMail x = roomWith(one[0]);
            c.due("levels of <" + one[0] + ">", levels(x, 0), one[1]);
        }
        CourtMail x = roomWith("[6:\n]");
        c.due("a line end has its level, though it is always seen", x.document(0, 3), 6);
    }

    /** "Bytes of names are marked, but the first one of each": seen with the reach 0. */
    private static void marksLeaveOutTheFirst() {
        String[][] due = {{"{A}", "A"}, {"{Ab}", "A*"}, {"{abcdefghijkl}", "a***********"}, {"{A}{B}", "AB"},
            {"{Ab}{Cd}", "A*C*"}, {"a{bc}d", "ab*d"}, {"Ab {c}d", "Ab cd"}, {"@1{xyz}@0", "Ex. 1x**Ex. 0"}, {"@19{xy}@10", "Ex. 19x*Ex. 10"},
            {"{Ab}\n{cD}", "A*\nc*"}};
        for (String[] one : due) {
            CourtMail x = roomWith(one[0]);
            c.due("<" + one[0] + "> with the reach 0", Checks.read(x, 1, 0), one[1]);
            int marked = 0;
            for (char b : one[1].toCharArray()) {
                marked += b == '*' ? 1 : 0;
            }
            c.due("marked bytes of <" + one[0] + ">", x.document(0, 4), marked);
        }
    }

    // ---- promise 5

    private static void errorAtBeforeAndBehindReading() {
        CourtMail x = room();
        c.due("there was none", x.errorAt(), -1);
        Checks.write(x, "ab]");
        c.due("none was read yet", x.errorAt(), -1);
        x.file(0);
        c.due("error 1", x.errorAt(), 2);
        c.refused("no such case", x, Checks.NO_INDEX, () -> x.file(8));
        c.due("one that did not read", x.errorAt(), 2);
        Checks.file(x, 0, "abcd@7");
        c.due("error 2", x.errorAt(), 4);
        Checks.file(x, 0, "]");
        c.due("at 0", x.errorAt(), 0);
        x.file(0);
        c.due("no error", x.errorAt(), -1);
        CourtMail y = room();
        for (int i = 0; i < 23; i++) {
            y.file(0);
        }
        Checks.file(y, 0, "abcde}");
        y.file(0);
        c.due("24 documents", y.count(3), 24);
        c.due("the last has no error", y.errorAt(), -1);
    }

    // ---- promise 6

    private static CourtMail veiled() {
        return roomWith("other", "ab[3:cd]{Ef}", "");
    }

    private static void veilTakesItsBounds() {
        c.range(DocumentEdgesTest::veiled, "veil: document", 0, 2, Checks.NO_INDEX, (x, n) -> x.veil(n, 0, 0, 1));
        c.range(DocumentEdgesTest::veiled, "veil: from", 0, 6, Checks.NO_ARGUMENT, (x, n) -> x.veil(1, n, 6, 1));
        c.range(DocumentEdgesTest::veiled, "veil: from up to 3", 0, 3, Checks.NO_ARGUMENT,
            (x, n) -> x.veil(1, n, 3, 1));
        c.range(DocumentEdgesTest::veiled, "veil: to", 0, 6, Checks.NO_ARGUMENT, (x, n) -> x.veil(1, 0, n, 1));
        c.range(DocumentEdgesTest::veiled, "veil: to from 4", 4, 6, Checks.NO_ARGUMENT, (x, n) -> x.veil(1, 4, n, 1));
        c.range(DocumentEdgesTest::veiled, "veil: from and to", 0, 6, Checks.NO_ARGUMENT,
            (x, n) -> x.veil(1, n, n, 1));
        c.range(DocumentEdgesTest::veiled, "veil: level", 0, 9, Checks.NO_ARGUMENT, (x, n) -> x.veil(1, 0, 6, n));
        c.range(DocumentEdgesTest::veiled, "veil: level of no bytes", 0, 9, Checks.NO_ARGUMENT,
            (x, n) -> x.veil(1, 2, 2, n));
        c.range(DocumentEdgesTest::veiled, "veil: from and to of no text", 0, 0, Checks.NO_ARGUMENT,
            (x, n) -> x.veil(2, n, n, 1));
    }

    private static void veilRefusesInOrder() {
        c.refusedIn(DocumentEdgesTest::veiled, "no document, from", Checks.NO_INDEX, x -> x.veil(3, -1, 2, 1));
        c.refusedIn(DocumentEdgesTest::veiled, "no document, to", Checks.NO_INDEX, x -> x.veil(3, 0, 7, 1));
        c.refusedIn(DocumentEdgesTest::veiled, "no document, level", Checks.NO_INDEX, x -> x.veil(-1, 0, 2, 10));
    }

    private static void veilCountsTheOthers() {
        CourtMail x = veiled();
        c.due("the text", Checks.read(x, 0, 1), "abcdEf");
        c.due("all have it", x.veil(1, 2, 4, 3), 0);
        c.due("none has it", x.veil(1, 2, 4, 4), 2);
        c.due("some have it", x.veil(1, 0, 6, 4), 4);
        c.due("veiled", x.document(1, 2), 6);
        c.due("no bytes", x.veil(1, 3, 3, 9), 0);
        c.due("no bytes at the end", x.veil(1, 6, 6, 9), 0);
        c.due("greatest", x.document(1, 3), 4);
        c.due("the first", x.veil(1, 0, 1, 9), 1);
        c.due("the last", x.veil(1, 5, 6, 9), 1);
        c.due("greatest", x.document(1, 3), 9);
        c.due("public with 4 sees", Checks.read(x, 2, 1), "#bcdE#");
        c.due("all to 0", x.veil(1, 0, 6, 0), 6);
        c.due("veiled", x.document(1, 2), 0);
        c.due("of no text", x.veil(2, 0, 0, 9), 0);
        c.due("another document", x.document(0, 2), 0);
        CourtMail y = roomWith(Checks.times("@0", 500));
        c.due("the longest text", y.veil(0, 0, 2500, 9), 2500);
        c.due("its last byte", y.veil(0, 2499, 2500, 0), 1);
        c.due("veiled", y.document(0, 2), 2499);
        c.refused("behind the longest text", y, Checks.NO_ARGUMENT, () -> y.veil(0, 2500, 2501, 1));
    }

    // ---- promise 7

    private static void documentIs(CourtMail x, int document, int... due) {
        for (int what = 0; what <= 7; what++) {
            c.due("document(" + document + ", " + what + ")", x.document(document, what), due[what]);
        }
    }

    private static void documentTellsItsEdges() {
        CourtMail x = room();
        for (int i = 3; i < 12; i++) {
            x.addPerson(1, 0);
        }
        Checks.file(x, 7, "");
        Checks.file(x, 0, "[9:{Abcdefghijkl}]");
        documentIs(x, 0, 7, 0, 0, 0, 0, -1, -1, 0);
        documentIs(x, 1, 0, 12, 12, 9, 11, -1, -1, 0);
        for (int i = 0; i < 12; i++) {
            x.read(i, 0);
            c.due("read by 0 to " + i, x.document(0, 7), (1 << i + 1) - 1);
        }
        x.lend(0, 11, 1);
        x.lend(1, 0, 60);
        documentIs(x, 0, 7, 0, 0, 0, 0, 11, 1, 4095);
        documentIs(x, 1, 0, 12, 12, 9, 11, 0, 60, 0);
        x.pass(1);
        documentIs(x, 0, 7, 0, 0, 0, 0, 11, 1, 4095);
        x.pass(1);
        documentIs(x, 0, 7, 0, 0, 0, 0, -1, -1, 4095);
    }

    private static void documentNeedsANumberAndAWhat() {
        c.range(DocumentEdgesTest::fullRoom, "document of 24", 0, 23, Checks.NO_INDEX, (x, n) -> x.document(n, 0));
        c.range(DocumentEdgesTest::veiled, "document of 3", 0, 2, Checks.NO_INDEX, (x, n) -> x.document(n, 7));
        c.range(DocumentEdgesTest::veiled, "document: what", 0, 7, Checks.NO_INDEX, (x, n) -> x.document(1, n));
        c.refusedIn(DocumentEdgesTest::veiled, "document: both", Checks.NO_INDEX, x -> x.document(3, 8));
    }
}
