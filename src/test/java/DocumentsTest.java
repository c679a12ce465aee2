/** Promises 1 to 7: a new object, feed, trim, file, errorAt, veil, document. */
public final class DocumentsTest {
    private static final Checks c = new Checks();

    public static void main(String[] args) {
        newObject();
        feedTakesHighestByteFirst();
        feedUpToThousand();
        trimKeepsTheFirst();
        fileRefuses();
        fileEmptiesTheTape();
        filePlain();
        fileVeils();
        fileDepth();
        fileNames();
        fileExhibits();
        fileForeignExhibits();
        fileErrorsAtTheEnd();
        fileLongest();
        errorAtStays();
        veilSets();
        veilRefuses();
        documentTells();
        documentRefuses();
        c.end();
    }

    private static void newObject() {
        CourtMail x = new CourtMail();
        for (int what = 0; what <= 11; what++) {
            c.due("new: count(" + what + ")", x.count(what), 0);
        }
        c.due("new: errorAt()", x.errorAt(), -1);
        c.due("new: plain()", x.plain(), 1.0);
        c.refused("new: byteAt(0)", x, Checks.NO_INDEX, () -> x.byteAt(0));
        c.refused("new: caseOf(0, 0)", x, Checks.NO_INDEX, () -> x.caseOf(0, 0));
        c.refused("new: person(0, 0)", x, Checks.NO_INDEX, () -> x.person(0, 0));
        c.refused("new: document(0, 0)", x, Checks.NO_INDEX, () -> x.document(0, 0));
        long d = 653;
        for (int i = 0; i < 12; i++) {
            d = d * 31;
        }
        c.due("new: digest()", x.digest(), d);
    }

    private static void feedTakesHighestByteFirst() {
        CourtMail x = new CourtMail();
        x.open(0);
        x.addPerson(1, 0);
        c.due("feed 1", x.feed(0x41424344, 0x45464748, 0x494A4B4C, 0x4D4E4F50, 0x51525354), 20);
        c.due("feed 2", x.feed(0x61626364, 0x65666768, 0x696A6B6C, 0x6D6E6F70, 0x71727374), 40);
        c.due("count(8)", x.count(8), 40);
        c.due("file", x.file(0), 0);
        c.due("what was fed", Checks.read(x, 0, 0), "ABCDEFGHIJKLMNOPQRSTabcdefghijklmnopqrst");
        // a number below zero has a highest byte above 127, which no document has
        x.feed(0x20202020, 0x20FF2020, 0x20202020, 0x20202020, 0x20202020);
        c.due("byte 255", x.file(0), -1);
        c.due("byte 255 at", x.errorAt(), 5);
        x.feed(-1, -1, -1, -1, -1);
        c.due("all 255", x.file(0), -1);
        c.due("all 255 at", x.errorAt(), 0);
    }

    private static void feedUpToThousand() {
        CourtMail x = new CourtMail();
        x.open(0);
        for (int i = 1; i <= 50; i++) {
            c.due("feed " + i, x.feed(0x20202020, 0x20202020, 0x20202020, 0x20202020, 0x20202020), 20 * i);
        }
        c.refused("feed 51", x, Checks.NO_STATE, () -> x.feed(0, 0, 0, 0, 0));
        x.trim(981);
        c.refused("feed on 981", x, Checks.NO_STATE, () -> x.feed(0, 0, 0, 0, 0));
        x.trim(980);
        c.due("feed on 980", x.feed(0x78787878, 0x78787878, 0x78787878, 0x78787878, 0x78787878), 1000);
        c.due("file 1000", x.file(0), 0);
        c.due("length", x.document(0, 1), 1000);
    }

    private static void trimKeepsTheFirst() {
        CourtMail x = new CourtMail();
        x.open(0);
        x.addPerson(1, 0);
        c.due("trim(0) of none", x.trim(0), 0);
        c.refused("trim(1) of none", x, Checks.NO_ARGUMENT, () -> x.trim(1));
        Checks.write(x, "abcdefghijklmnopqrstuvwxyz");
        c.refused("trim(27)", x, Checks.NO_ARGUMENT, () -> x.trim(27));
        c.refused("trim(-1)", x, Checks.NO_ARGUMENT, () -> x.trim(-1));
        c.refused("trim(MIN)", x, Checks.NO_ARGUMENT, () -> x.trim(Integer.MIN_VALUE));
        c.refused("trim(MAX)", x, Checks.NO_ARGUMENT, () -> x.trim(Integer.MAX_VALUE));
        c.due("trim(26)", x.trim(26), 26);
        c.due("trim(3)", x.trim(3), 3);
        c.due("count(8)", x.count(8), 3);
        Checks.write(x, "XY");
        x.file(0);
        c.due("trimmed", Checks.read(x, 0, 0), "abcXY");
    }

    private static void fileRefuses() {
        CourtMail x = new CourtMail();
        c.refused("file(0) without cases", x, Checks.NO_INDEX, () -> x.file(0));
        x.open(0);
        x.addPerson(1, 0);
        Checks.write(x, "abc");
        c.refused("file(-1)", x, Checks.NO_INDEX, () -> x.file(-1));
        c.refused("file(1)", x, Checks.NO_INDEX, () -> x.file(1));
        c.due("the tape stays", x.file(0), 0);
        c.due("the tape stays, whole", Checks.read(x, 0, 0), "abc");
        for (int i = 1; i < 24; i++) {
            c.due("file " + i, x.file(0), i);
        }
        Checks.write(x, "]");
        c.refused("a 25th document", x, Checks.NO_STATE, () -> x.file(0));
        c.refused("a 25th document of no case", x, Checks.NO_INDEX, () -> x.file(1));
        c.due("count(3)", x.count(3), 24);
        c.due("count(8)", x.count(8), 1);
    }

    private static void fileEmptiesTheTape() {
        CourtMail x = new CourtMail();
        x.open(0);
        Checks.write(x, "abc");
        x.file(0);
        c.due("empty behind a document", x.count(8), 0);
        Checks.write(x, "a]");
        x.file(0);
        c.due("empty behind error 1", x.count(8), 0);
        Checks.write(x, "@0");
        x.file(0);
        c.due("empty behind error 2", x.count(8), 0);
        c.due("one document", x.count(3), 1);
        c.due("an empty tape is a document", x.file(0), 1);
        c.due("without bytes", x.document(1, 1), 0);
        c.due("greatest level without bytes", x.document(1, 3), 0);
    }

    /** Files the text in a room with cases 0 and 1, exhibit 0 of the case 0, 1 of 1, 2 to 12 of 0. */
    private static CourtMail filed(String text, int answer, int errorAt) {
        CourtMail x = new CourtMail();
        x.open(0);
        x.open(0);
        x.addPerson(1, 0);
        for (int i = 0; i <= 12; i++) {
            x.takeIn(i == 1 ? 1 : 0);
        }
        c.due("file <" + text + ">", Checks.file(x, 0, text), answer);
        c.due("errorAt() of <" + text + ">", x.errorAt(), errorAt);
        c.due("documents of <" + text + ">", x.count(3), answer == 0 ? 1 : 0);
        return x;
    }

    private static void isText(String tape, String text, int veiled, int greatest, int marked) {
        CourtMail x = filed(tape, 0, -1);
        c.due("text of <" + tape + ">", Checks.read(x, 0, 0), text);
        c.due("veiled of <" + tape + ">", x.document(0, 2), veiled);
        c.due("greatest of <" + tape + ">", x.document(0, 3), greatest);
        c.due("marked of <" + tape + ">", x.document(0, 4), marked);
    }

    private static void filePlain() {
        StringBuilder all = new StringBuilder("\n");
        for (char b = 32; b <= 126; b++) {
            if ("[]{}@".indexOf(b) < 0) {
                all.append(b);
            }
        }
        isText(all.toString(), all.toString(), 0, 0, 0);
        for (int b = 0; b <= 255; b++) {
            boolean plain = all.indexOf(String.valueOf((char) b)) >= 0;
            if (!plain && "[{@".indexOf(b) < 0) {
                filed("ab" + (char) b + "cd", -1, 2);
            }
        }
        filed("]", -1, 0);
        filed("ab\r\n", -1, 2);
    }

    private static void fileVeils() {
        isText("a[3:bc]d", "abcd", 2, 3, 0);
        isText("[9:x]", "x", 1, 9, 0);
        isText("[1:]", "", 0, 0, 0);
        isText("[2:a[5:b]c]", "abc", 3, 5, 0);
        isText("[1:a][4:b]c:5", "abc:5", 2, 4, 0);
        filed("[0:x]", -1, 1);
        filed("[::x]", -1, 1);
        filed("[a:x]", -1, 1);
        filed("[12:x]", -1, 2);
        filed("[3x]", -1, 2);
        filed("[3]", -1, 2);
        filed("[]", -1, 1);
        filed("[[", -1, 1);
        filed("[3:a]]", -1, 5);
        filed("[3:a]b]", -1, 6);
        // levels: the greatest digit around, also where the inner one is the smaller
        CourtMail x = filed("a[5:b[2:c]d]e", 0, -1);
        x.addPerson(3, 4);
        x.addPerson(3, 5);
        c.due("seen with 4", Checks.read(x, 1, 0), "a###e");
        c.due("seen with 5", Checks.read(x, 2, 0), "abcde");
        CourtMail y = filed("a[2:b[5:c]d]e", 0, -1);
        y.addPerson(3, 4);
        y.addPerson(3, 1);
        c.due("seen with 4", Checks.read(y, 1, 0), "ab#de");
        c.due("seen with 1", Checks.read(y, 2, 0), "a###e");
    }

    private static void fileDepth() {
        isText("[1:[2:[3:[4:[5:x]]]]]", "x", 1, 5, 0);
        isText("[1:[1:[1:[1:[1:x][1:y]]]]]z", "xyz", 2, 1, 0);
        filed("[1:[2:[3:[4:[5:[6:x]]]]]]", -1, 15);
        filed("[1:[2:[3:[4:[5:ab[", -1, 17);
        isText(Checks.times("[1:a]", 20), Checks.times("a", 20), 20, 1, 0);
    }

    private static void fileNames() {
        isText("{Anna}", "Anna", 0, 0, 3);
        isText("{A}", "A", 0, 0, 0);
        isText("{AZaz}{bB}", "AZazbB", 0, 0, 4);
        isText("{abcdefghijkl}", "abcdefghijkl", 0, 0, 11);
        isText("x[4:{Bob}]", "xBob", 3, 4, 2);
        filed("{}", -1, 1);
        filed("{abcdefghijklm}", -1, 13);
        filed("{a b}", -1, 2);
        filed("{a@}", -1, 2);
        filed("{a[}", -1, 2);
        filed("{{a}}", -1, 1);
        filed("{a9}", -1, 2);
        filed("{a`}", -1, 2);
        filed("{a{}", -1, 2);
        filed("{Z[}", -1, 2);
        filed("{@}", -1, 1);
        filed("{a\n}", -1, 2);
        filed("a}", -1, 1);
        filed("{a}}", -1, 3);
        CourtMail x = filed("{Anna} met {Bo}", 0, -1);
        x.addPerson(3, 0);
        c.due("names with reach 0", Checks.read(x, 1, 0), "A*** met B*");
    }

    private static void fileExhibits() {
        isText("@0", "Ex. 0", 0, 0, 0);
        isText("see @2.", "see Ex. 2.", 0, 0, 0);
        isText("@12", "Ex. 12", 0, 0, 0);
        isText("@012", "Ex. 12", 0, 0, 0);
        isText("@0123", "Ex. 123", 0, 0, 0);
        isText("@000", "Ex. 0", 0, 0, 0);
        isText("@0000", "Ex. 00", 0, 0, 0);
        isText("@0049", "Ex. 49", 0, 0, 0);
        isText("@007", "Ex. 7", 0, 0, 0);
        isText("@3@4", "Ex. 3Ex. 4", 0, 0, 0);
        isText("[7:@10]@11", "Ex. 10Ex. 11", 6, 7, 0);
        isText("@9[2:x]{Ab}@8a", "Ex. 9xAbEx. 8a", 1, 2, 1);
        filed("@", -1, 1);
        filed("@x", -1, 1);
        filed("@@2", -1, 1);
        filed("@]", -1, 1);
        filed("@/", -1, 1);
        filed("@:", -1, 1);
        filed("@2]", -1, 2);
        filed("@2}", -1, 2);
        filed("@002]", -1, 4);
        filed("@2" + (char) 200, -1, 2);
        CourtMail x = filed("@2 @3 @2", 0, -1);
        c.due("documents that mark 2", x.exhibit(2, 6), 1);
        c.due("documents that mark 3", x.exhibit(3, 6), 1);
        c.due("documents that mark 4", x.exhibit(4, 6), 0);
    }

    private static void fileForeignExhibits() {
        filed("@1", -2, 0);
        filed("ab@1", -2, 2);
        filed("a@2@1@1", -2, 3);
        filed("@1@1@999", -2, 0);
        filed("@13", -2, 0);
        filed("@20", -2, 0);
        filed("@32", -2, 0);
        filed("@64", -2, 0);
        filed("@999", -2, 0);
        filed("[4:@2 @999]", -2, 6);
        // error 1 goes first, wherever it is
        filed("@1]", -1, 2);
        filed("@1 [3:", -1, 6);
        filed("@999{", -1, 5);
        filed("@999 @", -1, 6);
        // what an earlier tape marked is forgotten
        CourtMail x = filed("@1", -2, 0);
        c.due("next", Checks.file(x, 0, "@2"), 0);
        c.due("next errorAt()", x.errorAt(), -1);
        c.due("@1 in its own case", Checks.file(x, 1, "@1"), 1);
        c.due("@2 in the other case", Checks.file(x, 1, "x@2"), -2);
        c.due("its place", x.errorAt(), 1);
        c.due("documents that mark 1", x.exhibit(1, 6), 1);
        c.due("documents that mark 2", x.exhibit(2, 6), 1);
    }

    private static void fileErrorsAtTheEnd() {
        filed("[", -1, 1);
        filed("[3", -1, 2);
        filed("[3:", -1, 3);
        filed("[3:ab", -1, 5);
        filed("[3:[4:ab]", -1, 9);
        filed("[3:@2", -1, 5);
        filed("{", -1, 1);
        filed("{a", -1, 2);
        filed("{abcdefghijkl", -1, 13);
        filed("ab@", -1, 3);
        // a tape behind an error is read anew
        CourtMail x = filed("[3:[4:ab", -1, 8);
        c.due("behind an open veil", Checks.file(x, 0, "cd"), 0);
        c.due("no level of it", x.document(0, 3), 0);
        c.due("no text of it", Checks.read(x, 0, 0), "cd");
        CourtMail y = filed("ab]", -1, 2);
        c.due("behind a ]", Checks.file(y, 0, "[1:[2:[3:[4:[5:x]]]]]"), 0);
        for (String open : new String[] {"x[", "x[3", "{ab", "{", "x@", "[3:@2"}) {
            CourtMail w = filed(open, -1, open.length());
            c.due("behind <" + open + ">", Checks.file(w, 0, "cd"), 0);
            c.due("no level of it", w.document(0, 3), 0);
            c.due("no text of it", Checks.read(w, 0, 0), "cd");
            c.due("no exhibit of it", w.exhibit(2, 6), 0);
        }
        CourtMail z = filed("@1", -2, 0);
        c.due("behind a number", Checks.file(z, 0, "x"), 0);
        c.due("no text of it", Checks.read(z, 0, 0), "x");
    }

    private static void fileLongest() {
        CourtMail x = filed(Checks.times("@2", 500), 0, -1);
        c.due("2500 bytes", x.document(0, 1), 2500);
        c.due("read 2500", x.read(0, 0), 2500);
        // not each of them, for an object is used for 512 calls at most
        String text = Checks.times("Ex. 2", 500);
        for (int i = 0; i < 2500; i += 7) {
            c.due("byteAt(" + i + ")", x.byteAt(i), text.charAt(i));
        }
        CourtMail y = filed(Checks.times("[9:@12]", 142), 0, -1);
        c.due("142 times six", y.document(0, 2), 852);
        filed(Checks.times("x", 999) + "]", -1, 999);
        filed(Checks.times("x", 999) + "[", -1, 1000);
    }

    private static void errorAtStays() {
        CourtMail x = new CourtMail();
        x.open(0);
        Checks.file(x, 0, "abc]");
        c.due("errorAt", x.errorAt(), 3);
        c.due("errorAt again", x.errorAt(), 3);
        Checks.write(x, "x");
        c.due("errorAt behind feed and trim", x.errorAt(), 3);
        c.refused("file of no case", x, Checks.NO_INDEX, () -> x.file(5));
        c.due("errorAt behind a refused file", x.errorAt(), 3);
        x.file(0);
        c.due("errorAt behind a document", x.errorAt(), -1);
        Checks.file(x, 0, "a@7");
        c.due("errorAt of error 2", x.errorAt(), 1);
    }

    private static void veilSets() {
        CourtMail x = new CourtMail();
        x.open(0);
        x.addPerson(3, 4);
        Checks.file(x, 0, "ab[3:cd]ef");
        c.due("veil two of four", x.veil(0, 1, 5, 3), 2);
        c.due("veil them again", x.veil(0, 1, 5, 3), 0);
        c.due("veiled", x.document(0, 2), 4);
        c.due("veil to 9", x.veil(0, 0, 1, 9), 1);
        c.due("greatest", x.document(0, 3), 9);
        c.due("seen", Checks.read(x, 0, 0), "#bcdef");
        c.due("veil all to 0", x.veil(0, 0, 6, 0), 5);
        c.due("veiled", x.document(0, 2), 0);
        c.due("greatest", x.document(0, 3), 0);
        c.due("veil none", x.veil(0, 3, 3, 5), 0);
        c.due("veil none at the end", x.veil(0, 6, 6, 5), 0);
        c.due("veiled", x.document(0, 2), 0);
        c.due("veil one", x.veil(0, 5, 6, 5), 1);
        c.due("seen", Checks.read(x, 0, 0), "abcde#");
        Checks.file(x, 0, "ghijkl");
        c.due("the other has its own", x.document(1, 2), 0);
        // a mark stays a mark
        Checks.file(x, 0, "{Anna}");
        c.due("veil a name", x.veil(2, 0, 4, 7), 4);
        c.due("marked", x.document(2, 4), 3);
    }

    private static void veilRefuses() {
        CourtMail x = new CourtMail();
        c.refused("no document", x, Checks.NO_INDEX, () -> x.veil(0, 0, 0, 0));
        x.open(0);
        Checks.file(x, 0, "abcdef");
        c.refused("document 1", x, Checks.NO_INDEX, () -> x.veil(1, 0, 1, 1));
        c.refused("document -1", x, Checks.NO_INDEX, () -> x.veil(-1, 0, 1, 1));
        c.refused("document first", x, Checks.NO_INDEX, () -> x.veil(1, 0, 100, 10));
        c.refused("from -1", x, Checks.NO_ARGUMENT, () -> x.veil(0, -1, 1, 1));
        c.refused("from above to", x, Checks.NO_ARGUMENT, () -> x.veil(0, 3, 2, 1));
        c.refused("to 7", x, Checks.NO_ARGUMENT, () -> x.veil(0, 0, 7, 1));
        c.refused("from and to 7", x, Checks.NO_ARGUMENT, () -> x.veil(0, 7, 7, 1));
        c.refused("to MAX", x, Checks.NO_ARGUMENT, () -> x.veil(0, 0, Integer.MAX_VALUE, 1));
        c.refused("level -1", x, Checks.NO_ARGUMENT, () -> x.veil(0, 0, 6, -1));
        c.refused("level 10", x, Checks.NO_ARGUMENT, () -> x.veil(0, 0, 6, 10));
        c.refused("level 10 of no byte", x, Checks.NO_ARGUMENT, () -> x.veil(0, 2, 2, 10));
        c.due("level 9", x.veil(0, 0, 6, 9), 6);
    }

    private static void documentTells() {
        CourtMail x = new CourtMail();
        x.open(0);
        x.open(0);
        for (int i = 0; i < 3; i++) {
            x.addPerson(1, 0);
        }
        Checks.file(x, 1, "a[4:b{Cde}]\n");
        int[] fresh = {1, 6, 4, 4, 2, -1, -1, 0};
        for (int what = 0; what <= 7; what++) {
            c.due("document(0, " + what + ")", x.document(0, what), fresh[what]);
        }
        x.pass(2);
        x.lend(0, 2, 5);
        x.read(0, 0);
        x.read(2, 0);
        x.read(2, 0);
        int[] lent = {1, 6, 4, 4, 2, 2, 7, 5};
        for (int what = 0; what <= 7; what++) {
            c.due("lent: document(0, " + what + ")", x.document(0, what), lent[what]);
        }
        x.back(0);
        c.due("back: document(0, 5)", x.document(0, 5), -1);
        c.due("back: document(0, 6)", x.document(0, 6), -1);
    }

    private static void documentRefuses() {
        CourtMail x = new CourtMail();
        x.open(0);
        Checks.file(x, 0, "a");
        c.refused("document(-1, 0)", x, Checks.NO_INDEX, () -> x.document(-1, 0));
        c.refused("document(1, 0)", x, Checks.NO_INDEX, () -> x.document(1, 0));
        c.refused("document(MIN, 0)", x, Checks.NO_INDEX, () -> x.document(Integer.MIN_VALUE, 0));
        c.refused("document(0, -1)", x, Checks.NO_INDEX, () -> x.document(0, -1));
        c.refused("document(0, 8)", x, Checks.NO_INDEX, () -> x.document(0, 8));
    }
}
