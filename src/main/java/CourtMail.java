import java.util.ArrayList;
import java.util.Arrays;

/**
 * The mail room of a court: documents with veils, names and marks of exhibits, who sees what of
 * them, originals that are lent, exhibits with chains of custody, and letters that clerks carry out.
 */
public final class CourtMail {
    private static final int MOST_TAPE = 1000;
    // "@0" is the densest mark: two bytes of the tape become the five bytes "Ex. 0"
    private static final int MOST_TEXT = MOST_TAPE / 2 * 5;
    private static final int MOST_DEPTH = 5;
    private static final int MOST_LETTERS_OF_NAME = 12;
    private static final int MOST_DIGITS_OF_NUMBER = 3;
    private static final int MOST_CASES = 8;
    private static final int MOST_PEOPLE = 12;
    private static final int MOST_DOCUMENTS = 24;
    private static final int MOST_EXHIBITS = 20;
    private static final int MOST_LINKS = 12;
    private static final int MOST_LETTERS = 40;
    private static final int MOST_LEVEL = 9;

    private static final int CLERK = 0;
    private static final int JUDGE = 1;
    private static final int LAWYER = 2;
    private static final int PUBLIC = 3;

    private static final int ROOM = -1;
    private static final int LOST = -2;

    private static final int HANDED = 0;
    private static final int FOUND = 1;
    private static final int OPENED = 2;

    private static final int WAITS = 0;
    private static final int DELIVERED = 1;
    private static final int RETURNED = 2;

    private static final int LINE_END = 10;

    // the reach of one who cannot see into a case, and what is seen with it
    private static final int BLIND = -1;
    private static final int NOTHING = 0;

    private final ArrayList<Case> cases = new ArrayList<>();
    private final ArrayList<Person> people = new ArrayList<>();
    private final ArrayList<Document> documents = new ArrayList<>();
    private final ArrayList<Exhibit> exhibits = new ArrayList<>();
    private final ArrayList<Letter> letters = new ArrayList<>();
    private final int[] tape = new int[MOST_TAPE];
    private int tapeLength = 0;
    private final int[] paper = new int[MOST_TEXT];
    private int paperLength = 0;
    private final Draft draft = new Draft();
    private int errorPlace = -1;
    private int day = 0;

    public CourtMail() {
    }

    // ---- documents

    public int feed(int a, int b, int c, int d, int e) throws IllegalStateException {
        if (tapeLength + 20 > MOST_TAPE) {
            throw new IllegalStateException("the tape has no place for twenty bytes more");
        }
        append(a);
        append(b);
        append(c);
        append(d);
        append(e);
        return tapeLength;
    }

    public int trim(int n) throws IllegalArgumentException {
        if (n < 0 || n > tapeLength) {
            throw new IllegalArgumentException("the tape does not have so many bytes");
        }
        tapeLength = n;
        return n;
    }

    public int file(int ofCase) throws IndexOutOfBoundsException, IllegalStateException {
        Case c = caseAt(ofCase);
        if (c == null) {
            throw new IndexOutOfBoundsException("no such case");
        }
        if (documents.size() >= MOST_DOCUMENTS) {
            throw new IllegalStateException("there are 24 documents");
        }
        int error = draft.take(tape, tapeLength, exhibitsOf(c));
        tapeLength = 0;
        errorPlace = draft.errorPlace;
        if (error != 0) {
            return -error;
        }
        documents.add(new Document(c, draft));
        return documents.size() - 1;
    }

    public int errorAt() {
        return errorPlace;
    }

    public int veil(int document, int from, int to, int level)
            throws IndexOutOfBoundsException, IllegalArgumentException {
        Document d = documentAt(document);
        if (d == null) {
            throw new IndexOutOfBoundsException("no such document");
        }
        if (!d.hasRange(from, to) || !isLevel(level)) {
            throw new IllegalArgumentException("no such bytes, or no such level");
        }
        return d.setLevels(from, to, level);
    }

    public int document(int document, int what) throws IndexOutOfBoundsException {
        Document d = documentAt(document);
        if (d == null || what < 0 || what > 7) {
            throw new IndexOutOfBoundsException("no such document, or nothing to tell");
        }
        return tellDocument(d, what);
    }

    // ---- cases and people

    public int open(int seal) throws IllegalArgumentException, IllegalStateException {
        if (!isLevel(seal)) {
            throw new IllegalArgumentException("a seal is 0 to 9");
        }
        if (cases.size() >= MOST_CASES) {
            throw new IllegalStateException("there are 8 cases");
        }
        cases.add(new Case(cases.size(), seal));
        return cases.size() - 1;
    }

    public int seal(int ofCase, int seal) throws IndexOutOfBoundsException, IllegalArgumentException {
        Case c = caseAt(ofCase);
        if (c == null) {
            throw new IndexOutOfBoundsException("no such case");
        }
        if (!isLevel(seal)) {
            throw new IllegalArgumentException("a seal is 0 to 9");
        }
        int before = c.seal;
        c.seal = seal;
        return before;
    }

    public int addPerson(int role, int clearance) throws IllegalArgumentException, IllegalStateException {
        if (role < CLERK || role > PUBLIC || !isLevel(clearance)) {
            throw new IllegalArgumentException("no such role, or no such clearance");
        }
        if (people.size() >= MOST_PEOPLE) {
            throw new IllegalStateException("there are 12 people");
        }
        people.add(new Person(people.size(), role, clearance));
        return people.size() - 1;
    }

    public boolean attach(int person, int ofCase) throws IndexOutOfBoundsException {
        Person p = personAt(person);
        Case c = caseAt(ofCase);
        if (p == null || c == null) {
            throw new IndexOutOfBoundsException("no such person or case");
        }
        p.attached ^= 1 << c.number;
        return p.isAttachedTo(c);
    }

    public int person(int person, int what) throws IndexOutOfBoundsException {
        Person p = personAt(person);
        if (p == null || what < 0 || what > 7) {
            throw new IndexOutOfBoundsException("no such person, or nothing to tell");
        }
        return tellPerson(p, what);
    }

    public int caseOf(int ofCase, int what) throws IndexOutOfBoundsException {
        Case c = caseAt(ofCase);
        if (c == null || what < 0 || what > 4) {
            throw new IndexOutOfBoundsException("no such case, or nothing to tell");
        }
        return tellCase(c, what);
    }

    // ---- reading

    public int read(int person, int document) throws IndexOutOfBoundsException {
        Person p = personAt(person);
        Document d = documentAt(document);
        if (p == null || d == null) {
            throw new IndexOutOfBoundsException("no such person or document");
        }
        int reach = p.reachInto(d.ofCase);
        if (reach == BLIND) {
            return -1;
        }
        writePaper(d, reach);
        d.writeLog(p);
        return paperLength;
    }

    public int byteAt(int index) throws IndexOutOfBoundsException {
        if (index < 0 || index >= paperLength || index >= paper.length) {
            throw new IndexOutOfBoundsException("no such place on the paper");
        }
        return paper[index];
    }

    public int hidden(int person, int document) throws IndexOutOfBoundsException {
        Person p = personAt(person);
        Document d = documentAt(document);
        if (p == null || d == null) {
            throw new IndexOutOfBoundsException("no such person or document");
        }
        return hiddenBytes(p, d);
    }

    public int differs(int a, int b, int document) throws IndexOutOfBoundsException {
        Person one = personAt(a);
        Person other = personAt(b);
        Document d = documentAt(document);
        if (one == null || other == null || d == null) {
            throw new IndexOutOfBoundsException("no such person or document");
        }
        int reach = one.reachInto(d.ofCase);
        int otherReach = other.reachInto(d.ofCase);
        for (int i = 0; i < d.text.length; i++) {
            if (d.seenAt(i, reach) != d.seenAt(i, otherReach)) {
                return i;
            }
        }
        return -1;
    }

    public int find(int person, int document) throws IndexOutOfBoundsException {
        Person p = personAt(person);
        Document d = documentAt(document);
        if (p == null || d == null) {
            throw new IndexOutOfBoundsException("no such person or document");
        }
        int reach = p.reachInto(d.ofCase);
        if (tapeLength == 0 || reach == BLIND) {
            return -1;
        }
        for (int start = 0; start + tapeLength <= d.text.length; start++) {
            if (isTapeSeen(d, start, reach)) {
                return start;
            }
        }
        return -1;
    }

    public int least(int document, int from, int to) throws IndexOutOfBoundsException, IllegalArgumentException {
        Document d = documentAt(document);
        if (d == null) {
            throw new IndexOutOfBoundsException("no such document");
        }
        if (!d.hasRange(from, to)) {
            throw new IllegalArgumentException("no such bytes");
        }
        for (int reach = d.ofCase.seal; reach < MOST_LEVEL; reach++) {
            if (d.countHidden(from, to, reach) == 0) {
                return reach;
            }
        }
        return MOST_LEVEL;
    }

    public int lend(int document, int person, int days)
            throws IndexOutOfBoundsException, IllegalArgumentException, IllegalStateException {
        Document d = documentAt(document);
        Person p = personAt(person);
        if (d == null || p == null) {
            throw new IndexOutOfBoundsException("no such document or person");
        }
        if (days < 1 || days > 60) {
            throw new IllegalArgumentException("an original is lent for 1 to 60 days");
        }
        if (d.holder != null || hiddenBytes(p, d) != 0) {
            throw new IllegalStateException("the original is out, or not all of it is seen");
        }
        d.holder = p;
        d.backBy = day + days;
        return d.backBy;
    }

    public int back(int document) throws IndexOutOfBoundsException {
        Document d = documentAt(document);
        if (d == null) {
            throw new IndexOutOfBoundsException("no such document");
        }
        int before = numberOf(d.holder);
        d.bringBack();
        return before;
    }

    // ---- exhibits

    public int takeIn(int ofCase) throws IndexOutOfBoundsException, IllegalStateException {
        Case c = caseAt(ofCase);
        if (c == null) {
            throw new IndexOutOfBoundsException("no such case");
        }
        if (exhibits.size() >= MOST_EXHIBITS) {
            throw new IllegalStateException("there are 20 exhibits");
        }
        exhibits.add(new Exhibit(exhibits.size(), c));
        return exhibits.size() - 1;
    }

    public int hand(int exhibit, int to) throws IndexOutOfBoundsException, IllegalStateException {
        Exhibit e = exhibitAt(exhibit);
        Person taker = personAt(to);
        if (e == null || (taker == null && to != ROOM)) {
            throw new IndexOutOfBoundsException("no such exhibit or person");
        }
        if (e.lost || e.holder == taker || e.hasFullChain()) {
            throw new IllegalStateException("lost, there already, or its chain is full");
        }
        if (taker != null && !taker.canSeeInto(e.ofCase)) {
            throw new IllegalStateException("this person cannot see into its case");
        }
        e.addLink(new Link(day, e.holder, taker, HANDED));
        e.holder = taker;
        return e.chain.size();
    }

    public int unseal(int exhibit) throws IndexOutOfBoundsException, IllegalStateException {
        Exhibit e = exhibitAt(exhibit);
        if (e == null) {
            throw new IndexOutOfBoundsException("no such exhibit");
        }
        if (e.holder == null || e.hasFullChain()) {
            throw new IllegalStateException("with nobody, or its chain is full");
        }
        e.addLink(new Link(day, e.holder, e.holder, OPENED));
        e.sealNumber = (e.sealNumber * 31 + day) % 10007;
        return e.sealNumber;
    }

    public int lose(int exhibit) throws IndexOutOfBoundsException, IllegalStateException {
        Exhibit e = exhibitAt(exhibit);
        if (e == null) {
            throw new IndexOutOfBoundsException("no such exhibit");
        }
        if (e.lost) {
            throw new IllegalStateException("it is lost already");
        }
        int before = numberOf(e.holder);
        e.lost = true;
        e.holder = null;
        return before;
    }

    public int found(int exhibit, int by) throws IndexOutOfBoundsException, IllegalStateException {
        Exhibit e = exhibitAt(exhibit);
        Person finder = personAt(by);
        if (e == null || (finder == null && by != ROOM)) {
            throw new IndexOutOfBoundsException("no such exhibit or person");
        }
        if (!e.lost || e.hasFullChain()) {
            throw new IllegalStateException("not lost, or its chain is full");
        }
        e.addLink(new Link(day, null, finder, FOUND));
        e.lost = false;
        e.holder = finder;
        return e.chain.size();
    }

    public int exhibit(int exhibit, int what) throws IndexOutOfBoundsException {
        Exhibit e = exhibitAt(exhibit);
        if (e == null || what < 0 || what > 6) {
            throw new IndexOutOfBoundsException("no such exhibit, or nothing to tell");
        }
        return tellExhibit(e, what);
    }

    public int link(int exhibit, int link, int what) throws IndexOutOfBoundsException {
        Exhibit e = exhibitAt(exhibit);
        if (e == null || link < 0 || link >= e.chain.size() || what < 0 || what > 3) {
            throw new IndexOutOfBoundsException("no such exhibit or link, or nothing to tell");
        }
        return tellLink(e.chain.get(link), what);
    }

    // ---- letters and days

    public int send(int document, int person, int days)
            throws IndexOutOfBoundsException, IllegalArgumentException, IllegalStateException {
        Document d = documentAt(document);
        Person p = personAt(person);
        if (d == null || p == null) {
            throw new IndexOutOfBoundsException("no such document or person");
        }
        if (days < 0 || days > 30) {
            throw new IllegalArgumentException("a letter is due in 0 to 30 days");
        }
        if (letters.size() >= MOST_LETTERS) {
            throw new IllegalStateException("there are 40 letters");
        }
        letters.add(new Letter(d, document, p, day + days));
        return letters.size() - 1;
    }

    public int letter(int letter, int what) throws IndexOutOfBoundsException {
        Letter l = letterAt(letter);
        if (l == null || what < 0 || what > 4) {
            throw new IndexOutOfBoundsException("no such letter, or nothing to tell");
        }
        return tellLetter(l, what);
    }

    public int pass(int days) throws IllegalArgumentException {
        if (days < 1 || days > 100) {
            throw new IllegalArgumentException("1 to 100 days go by");
        }
        int delivered = 0;
        for (int i = 0; i < days; i++) {
            delivered += carryOutLetters();
            day++;
            callBackOriginals();
        }
        return delivered;
    }

    public int arrives(int letter) throws IndexOutOfBoundsException {
        Letter l = letterAt(letter);
        if (l == null) {
            throw new IndexOutOfBoundsException("no such letter");
        }
        if (l.state == DELIVERED) {
            return 0;
        }
        int aDay = lettersOfADay();
        if (l.state == RETURNED || aDay <= 0) {
            return -1;
        }
        int days = lettersAhead(letter, l) / aDay + 1;
        Case c = l.document.ofCase;
        return c.seal <= l.person.reachWith(clearanceBehind(l.person, days - 1), c) ? days : -1;
    }

    public int count(int what) throws IndexOutOfBoundsException {
        if (what < 0 || what > 11) {
            throw new IndexOutOfBoundsException("nothing to tell");
        }
        return tellCount(what);
    }

    public int sees(int ofCase) throws IndexOutOfBoundsException {
        Case c = caseAt(ofCase);
        if (c == null) {
            throw new IndexOutOfBoundsException("no such case");
        }
        int best = -1;
        int most = 0;
        for (int i = 0; i < people.size(); i++) {
            Person p = people.get(i);
            int seen = p.role == LAWYER || p.role == PUBLIC ? bytesSeenBy(p, c) : 0;
            if (seen > most) {
                most = seen;
                best = i;
            }
        }
        return best;
    }

    public double plain() {
        int all = 0;
        int veiled = 0;
        for (int i = 0; i < documents.size(); i++) {
            all += documents.get(i).text.length;
            veiled += documents.get(i).countVeiled();
        }
        if (all <= 0) {
            return 1.0;
        }
        return (double) (all - veiled) / (double) all;
    }

    public long digest() {
        long d = 653;
        for (int what = 0; what <= 11; what++) {
            d = d * 31 + tellCount(what);
        }
        d = digestCases(d);
        d = digestPeople(d);
        d = digestDocuments(d);
        d = digestExhibits(d);
        d = digestLetters(d);
        for (int i = 0; i < paperLength && i < paper.length; i++) {
            d = d * 31 + paper[i];
        }
        return d;
    }

    // ---- what a number stands for; null if for nothing

    private Case caseAt(int i) {
        return i < 0 || i >= cases.size() ? null : cases.get(i);
    }

    private Person personAt(int i) {
        return i < 0 || i >= people.size() ? null : people.get(i);
    }

    private Document documentAt(int i) {
        return i < 0 || i >= documents.size() ? null : documents.get(i);
    }

    private Exhibit exhibitAt(int i) {
        return i < 0 || i >= exhibits.size() ? null : exhibits.get(i);
    }

    private Letter letterAt(int i) {
        return i < 0 || i >= letters.size() ? null : letters.get(i);
    }

    private static int numberOf(Person p) {
        return p == null ? ROOM : p.number;
    }

    private static boolean isLevel(int n) {
        return n >= 0 && n <= MOST_LEVEL;
    }

    // ---- the tape and the paper

    private void append(int four) {
        for (int shift = 24; shift >= 0; shift -= 8) {
            if (tapeLength >= 0 && tapeLength < tape.length) {
                tape[tapeLength] = (four >>> shift) & 255;
                tapeLength++;
            }
        }
    }

    private void writePaper(Document d, int reach) {
        paperLength = Math.min(d.text.length, paper.length);
        for (int i = 0; i < paperLength; i++) {
            paper[i] = d.seenAt(i, reach);
        }
    }

    private boolean isTapeSeen(Document d, int start, int reach) {
        for (int i = 0; i < tapeLength && i < tape.length; i++) {
            if (d.seenAt(start + i, reach) != tape[i]) {
                return false;
            }
        }
        return true;
    }

    // ---- who sees what

    private static int hiddenBytes(Person p, Document d) {
        return d.countHidden(0, d.text.length, p.reachInto(d.ofCase));
    }

    private int bytesSeenBy(Person p, Case c) {
        int seen = 0;
        for (int i = 0; i < documents.size(); i++) {
            Document d = documents.get(i);
            if (d.ofCase == c) {
                seen += d.text.length - hiddenBytes(p, d);
            }
        }
        return seen;
    }

    /** The exhibits of a case, as the sum of the powers 2^k. */
    private int exhibitsOf(Case c) {
        int own = 0;
        for (int i = 0; i < exhibits.size(); i++) {
            if (exhibits.get(i).ofCase == c) {
                own |= 1 << i;
            }
        }
        return own;
    }

    // ---- days

    private int carryOutLetters() {
        int delivered = 0;
        int carried = lettersOfADay();
        for (int i = 0; i < carried; i++) {
            Letter l = nextLetter();
            if (l == null) {
                return delivered;
            }
            carryOut(l);
            if (l.state == DELIVERED) {
                delivered++;
            }
        }
        return delivered;
    }

    private int lettersOfADay() {
        int clerks = 0;
        for (int i = 0; i < people.size(); i++) {
            if (people.get(i).role == CLERK) {
                clerks++;
            }
        }
        return 3 * clerks;
    }

    /** The waiting letter that is due first, of several the one with the smallest number; null if none waits. */
    private Letter nextLetter() {
        Letter next = null;
        for (int i = 0; i < letters.size(); i++) {
            Letter l = letters.get(i);
            if (l.state == WAITS && (next == null || l.due < next.due)) {
                next = l;
            }
        }
        return next;
    }

    private void carryOut(Letter l) {
        l.carriedOn = day;
        if (l.person.canSeeInto(l.document.ofCase)) {
            l.state = DELIVERED;
            l.document.writeLog(l.person);
        } else {
            l.state = RETURNED;
        }
    }

    private void callBackOriginals() {
        for (int i = 0; i < documents.size(); i++) {
            Document d = documents.get(i);
            if (d.holder != null && d.backBy < day) {
                d.holder.warn();
                d.bringBack();
            }
        }
    }

    /** How many waiting letters are carried out ahead of this one. */
    private int lettersAhead(int number, Letter l) {
        int ahead = 0;
        for (int i = 0; i < letters.size(); i++) {
            Letter other = letters.get(i);
            if (other.state == WAITS && (other.due < l.due || (other.due == l.due && i < number))) {
                ahead++;
            }
        }
        return ahead;
    }

    /** The clearance that a person has behind so many days in which nothing is done. */
    private int clearanceBehind(Person p, int days) {
        // only originals that are called back change it, so their number tells it without living the days
        int warnings = p.warnings;
        for (int i = 0; i < documents.size(); i++) {
            Document d = documents.get(i);
            if (d.holder == p && d.backBy < day + days) {
                warnings++;
            }
        }
        return Math.max(0, p.clearance - warnings / 3);
    }

    // ---- what is told

    private int tellCount(int what) {
        switch (what) {
            case 0: return day;
            case 1: return cases.size();
            case 2: return people.size();
            case 3: return documents.size();
            case 4: return exhibits.size();
            case 5: return letters.size();
            case 6: return countLetters(WAITS);
            case 7: return countLetters(DELIVERED);
            case 8: return tapeLength;
            case 9: return paperLength;
            case 10: return countLost();
            default: return countLent();
        }
    }

    private int countLetters(int state) {
        int n = 0;
        for (int i = 0; i < letters.size(); i++) {
            if (letters.get(i).state == state) {
                n++;
            }
        }
        return n;
    }

    private int countLost() {
        int n = 0;
        for (int i = 0; i < exhibits.size(); i++) {
            if (exhibits.get(i).lost) {
                n++;
            }
        }
        return n;
    }

    private int countLent() {
        int n = 0;
        for (int i = 0; i < documents.size(); i++) {
            if (documents.get(i).holder != null) {
                n++;
            }
        }
        return n;
    }

    private int tellCase(Case c, int what) {
        switch (what) {
            case 0: return c.seal;
            case 1: return countDocumentsOf(c);
            case 2: return Integer.bitCount(exhibitsOf(c));
            case 3: return countAdmitted(c);
            default: return countWhoSeeInto(c);
        }
    }

    private int countDocumentsOf(Case c) {
        int n = 0;
        for (int i = 0; i < documents.size(); i++) {
            if (documents.get(i).ofCase == c) {
                n++;
            }
        }
        return n;
    }

    private int countAdmitted(Case c) {
        int n = 0;
        for (int i = 0; i < exhibits.size(); i++) {
            Exhibit e = exhibits.get(i);
            if (e.ofCase == c && e.canBeAdmitted()) {
                n++;
            }
        }
        return n;
    }

    private int countWhoSeeInto(Case c) {
        int n = 0;
        for (int i = 0; i < people.size(); i++) {
            if (people.get(i).canSeeInto(c)) {
                n++;
            }
        }
        return n;
    }

    private int tellPerson(Person p, int what) {
        switch (what) {
            case 0: return p.role;
            case 1: return p.clearance;
            case 2: return p.attached;
            case 3: return casesSeenBy(p);
            case 4: return p.warnings;
            case 5: return countOriginalsWith(p);
            case 6: return countExhibitsWith(p);
            default: return countDeliveredTo(p);
        }
    }

    private int casesSeenBy(Person p) {
        int seen = 0;
        for (int i = 0; i < cases.size(); i++) {
            if (p.canSeeInto(cases.get(i))) {
                seen |= 1 << i;
            }
        }
        return seen;
    }

    private int countOriginalsWith(Person p) {
        int n = 0;
        for (int i = 0; i < documents.size(); i++) {
            if (documents.get(i).holder == p) {
                n++;
            }
        }
        return n;
    }

    private int countExhibitsWith(Person p) {
        int n = 0;
        for (int i = 0; i < exhibits.size(); i++) {
            if (exhibits.get(i).holder == p) {
                n++;
            }
        }
        return n;
    }

    private int countDeliveredTo(Person p) {
        int n = 0;
        for (int i = 0; i < letters.size(); i++) {
            Letter l = letters.get(i);
            if (l.person == p && l.state == DELIVERED) {
                n++;
            }
        }
        return n;
    }

    private static int tellDocument(Document d, int what) {
        switch (what) {
            case 0: return d.ofCase.number;
            case 1: return d.text.length;
            case 2: return d.countVeiled();
            case 3: return d.greatestLevel();
            case 4: return d.countMarked();
            case 5: return numberOf(d.holder);
            case 6: return d.backBy;
            default: return d.log;
        }
    }

    private int tellExhibit(Exhibit e, int what) {
        switch (what) {
            case 0: return e.ofCase.number;
            case 1: return e.lost ? LOST : numberOf(e.holder);
            case 2: return e.sealNumber;
            case 3: return e.chain.size();
            case 4: return e.countGaps();
            case 5: return e.canBeAdmitted() ? 1 : 0;
            default: return countDocumentsThatMark(e);
        }
    }

    private int countDocumentsThatMark(Exhibit e) {
        int n = 0;
        for (int i = 0; i < documents.size(); i++) {
            if ((documents.get(i).exhibits >> e.number & 1) == 1) {
                n++;
            }
        }
        return n;
    }

    private static int tellLink(Link l, int what) {
        switch (what) {
            case 0: return l.day;
            case 1: return numberOf(l.from);
            case 2: return numberOf(l.to);
            default: return l.happened;
        }
    }

    private static int tellLetter(Letter l, int what) {
        switch (what) {
            case 0: return l.documentNumber;
            case 1: return l.person.number;
            case 2: return l.due;
            case 3: return l.state;
            default: return l.carriedOn;
        }
    }

    // ---- the checksum

    private long digestCases(long before) {
        long d = before;
        for (int i = 0; i < cases.size(); i++) {
            for (int what = 0; what <= 4; what++) {
                d = d * 31 + tellCase(cases.get(i), what);
            }
        }
        return d;
    }

    private long digestPeople(long before) {
        long d = before;
        for (int i = 0; i < people.size(); i++) {
            for (int what = 0; what <= 7; what++) {
                d = d * 31 + tellPerson(people.get(i), what);
            }
        }
        return d;
    }

    private long digestDocuments(long before) {
        long d = before;
        for (int i = 0; i < documents.size(); i++) {
            Document one = documents.get(i);
            for (int what = 0; what <= 7; what++) {
                d = d * 31 + tellDocument(one, what);
            }
            for (int k = 0; k < one.text.length && k < one.levels.length; k++) {
                d = d * 31 + one.text[k];
                d = d * 31 + one.levels[k];
            }
        }
        return d;
    }

    private long digestExhibits(long before) {
        long d = before;
        for (int i = 0; i < exhibits.size(); i++) {
            Exhibit e = exhibits.get(i);
            for (int what = 0; what <= 6; what++) {
                d = d * 31 + tellExhibit(e, what);
            }
            for (int k = 0; k < e.chain.size(); k++) {
                for (int what = 0; what <= 3; what++) {
                    d = d * 31 + tellLink(e.chain.get(k), what);
                }
            }
        }
        return d;
    }

    private long digestLetters(long before) {
        long d = before;
        for (int i = 0; i < letters.size(); i++) {
            for (int what = 0; what <= 4; what++) {
                d = d * 31 + tellLetter(letters.get(i), what);
            }
        }
        return d;
    }

    private static final class Case {
        final int number;
        int seal;

        Case(int number, int seal) {
            this.number = number;
            this.seal = seal;
        }
    }

    private static final class Person {
        final int number;
        final int role;
        int clearance;
        int attached = 0;
        int warnings = 0;

        Person(int number, int role, int clearance) {
            this.number = number;
            this.role = role;
            this.clearance = clearance;
        }

        boolean isAttachedTo(Case c) {
            return (attached >> c.number & 1) == 1;
        }

        /** The reach in a case, or BLIND for one who cannot see into it. */
        int reachInto(Case c) {
            return canSeeInto(c) ? reachWith(clearance, c) : BLIND;
        }

        int reachWith(int someClearance, Case c) {
            if (role == JUDGE) {
                return MOST_LEVEL;
            }
            return Math.min(MOST_LEVEL, isAttachedTo(c) ? someClearance + 2 : someClearance);
        }

        boolean canSeeInto(Case c) {
            return c.seal <= reachWith(clearance, c);
        }

        void warn() {
            warnings++;
            if (warnings >= 3) {
                warnings = 0;
                clearance = Math.max(0, clearance - 1);
            }
        }
    }

    private static final class Document {
        final Case ofCase;
        final byte[] text;
        final byte[] levels;
        // 1 for a marked byte, else 0
        final byte[] marks;
        // those that the text marks, as the sum of the powers 2^k
        final int exhibits;
        Person holder = null;
        int backBy = -1;
        int log = 0;

        Document(Case ofCase, Draft draft) {
            this.ofCase = ofCase;
            this.text = firstOf(draft.text, draft.length);
            this.levels = firstOf(draft.levels, draft.length);
            this.marks = firstOf(draft.marks, draft.length);
            this.exhibits = draft.exhibits;
        }

        private static byte[] firstOf(byte[] row, int n) {
            return Arrays.copyOf(row, Math.max(0, Math.min(n, row.length)));
        }

        boolean hasRange(int from, int to) {
            return from >= 0 && from <= to && to <= text.length;
        }

        int seenAt(int i, int reach) {
            if (reach == BLIND || i < 0 || i >= text.length || i >= levels.length || i >= marks.length) {
                return NOTHING;
            }
            if (text[i] == LINE_END) {
                return LINE_END;
            }
            if (levels[i] > reach) {
                return '#';
            }
            return reach == 0 && marks[i] == 1 ? '*' : text[i];
        }

        int countHidden(int from, int to, int reach) {
            int n = 0;
            for (int i = Math.max(0, from); i < to && i < text.length; i++) {
                if (seenAt(i, reach) != text[i]) {
                    n++;
                }
            }
            return n;
        }

        int setLevels(int from, int to, int level) {
            int changed = 0;
            for (int i = Math.max(0, from); i < to && i < levels.length; i++) {
                if (levels[i] != level) {
                    levels[i] = (byte) level;
                    changed++;
                }
            }
            return changed;
        }

        int countVeiled() {
            int n = 0;
            for (int i = 0; i < levels.length; i++) {
                if (levels[i] > 0) {
                    n++;
                }
            }
            return n;
        }

        int greatestLevel() {
            int greatest = 0;
            for (int i = 0; i < levels.length; i++) {
                greatest = Math.max(greatest, levels[i]);
            }
            return greatest;
        }

        int countMarked() {
            int n = 0;
            for (int i = 0; i < marks.length; i++) {
                n += marks[i];
            }
            return n;
        }

        void writeLog(Person reader) {
            log |= 1 << reader.number;
        }

        void bringBack() {
            holder = null;
            backBy = -1;
        }
    }

    /**
     * Takes a tape byte by byte and makes a text of it; its rows are used again for every tape.
     * The first byte that a step refuses (by false) ends the reading, so it may leave the state as it likes.
     */
    private static final class Draft {
        // what the next byte belongs to
        static final int BODY = 0;
        static final int DIGIT = 1;
        static final int COLON = 2;
        static final int NAME = 3;
        static final int NUMBER = 4;

        final byte[] text = new byte[MOST_TEXT];
        final byte[] levels = new byte[MOST_TEXT];
        final byte[] marks = new byte[MOST_TEXT];
        int length;
        int exhibits;
        int errorPlace;
        // the level at each depth
        private final int[] veils = new int[MOST_DEPTH + 1];
        private int depth;
        private int state;
        // letters of the name, or digits of the number, so far
        private int run;
        private int number;
        private int numberAt;
        private int ownExhibits;
        private int foreignAt;

        /** Returns the number of the error, 0 for none; then errorPlace tells where it is. */
        int take(int[] tape, int tapeLength, int ownExhibitsOfCase) {
            start(ownExhibitsOfCase);
            for (int i = 0; i < tapeLength && i < tape.length; i++) {
                if (!takeByte(tape[i], i)) {
                    errorPlace = i;
                    return 1;
                }
            }
            if (!isWhole()) {
                errorPlace = tapeLength;
                return 1;
            }
            if (state == NUMBER) {
                endNumber();
            }
            errorPlace = foreignAt;
            return foreignAt >= 0 ? 2 : 0;
        }

        private void start(int ownExhibitsOfCase) {
            length = 0;
            exhibits = 0;
            depth = 0;
            state = BODY;
            ownExhibits = ownExhibitsOfCase;
            foreignAt = -1;
        }

        private boolean isWhole() {
            return depth == 0 && (state == BODY || (state == NUMBER && run > 0));
        }

        private boolean takeByte(int b, int place) {
            switch (state) {
                case DIGIT: return takeLevel(b);
                case COLON: return takeColon(b);
                case NAME: return takeNameByte(b);
                case NUMBER: return takeNumberByte(b, place);
                default: return takeBodyByte(b, place);
            }
        }

        private boolean takeBodyByte(int b, int place) {
            switch (b) {
                case '[':
                    state = DIGIT;
                    return depth < MOST_DEPTH;
                case ']':
                    depth--;
                    return depth >= 0;
                case '{':
                    state = NAME;
                    run = 0;
                    return true;
                case '}':
                    return false;
                case '@':
                    state = NUMBER;
                    run = 0;
                    number = 0;
                    numberAt = place;
                    return true;
                default:
                    return takePlain(b);
            }
        }

        private boolean takePlain(int b) {
            if (b != LINE_END && (b < 32 || b > 126)) {
                return false;
            }
            put(b, 0);
            return true;
        }

        private boolean takeLevel(int b) {
            if (b < '1' || b > '9' || depth < 0 || depth + 1 >= veils.length) {
                return false;
            }
            veils[depth + 1] = Math.max(veils[depth], b - '0');
            depth++;
            state = COLON;
            return true;
        }

        private boolean takeColon(int b) {
            state = BODY;
            return b == ':';
        }

        private boolean takeNameByte(int b) {
            if (b == '}') {
                state = BODY;
                return run > 0;
            }
            if (run >= MOST_LETTERS_OF_NAME || !isLetter(b)) {
                return false;
            }
            // the first letter of a name bears no mark
            put(b, run > 0 ? 1 : 0);
            run++;
            return true;
        }

        private boolean takeNumberByte(int b, int place) {
            if (b < '0' || b > '9') {
                if (run == 0) {
                    return false;
                }
                endNumber();
                return takeBodyByte(b, place);
            }
            number = number * 10 + b - '0';
            run++;
            if (run >= MOST_DIGITS_OF_NUMBER) {
                endNumber();
            }
            return true;
        }

        private void endNumber() {
            state = BODY;
            if (number >= MOST_EXHIBITS || (ownExhibits >> number & 1) == 0) {
                // the tape makes no document any more, so nothing is put; but error 1 may still come
                foreignAt = foreignAt < 0 ? numberAt : foreignAt;
                return;
            }
            exhibits |= 1 << number;
            put('E', 0);
            put('x', 0);
            put('.', 0);
            put(' ', 0);
            // an exhibit's number has two digits at most
            if (number >= 10) {
                put('0' + number / 10, 0);
            }
            put('0' + number % 10, 0);
        }

        private static boolean isLetter(int b) {
            return (b >= 'A' && b <= 'Z') || (b >= 'a' && b <= 'z');
        }

        private void put(int b, int mark) {
            if (length < 0 || length >= text.length || depth < 0 || depth >= veils.length) {
                return;
            }
            text[length] = (byte) b;
            levels[length] = (byte) veils[depth];
            marks[length] = (byte) mark;
            length++;
        }
    }

    private static final class Exhibit {
        final int number;
        final Case ofCase;
        // null in the room, and while it is lost
        Person holder = null;
        boolean lost = false;
        int sealNumber;
        final ArrayList<Link> chain = new ArrayList<>();

        Exhibit(int number, Case ofCase) {
            this.number = number;
            this.ofCase = ofCase;
            this.sealNumber = 1000 + number;
        }

        boolean hasFullChain() {
            return chain.size() >= MOST_LINKS;
        }

        void addLink(Link l) {
            chain.add(l);
        }

        int countGaps() {
            int n = 0;
            for (int i = 0; i < chain.size(); i++) {
                if (chain.get(i).happened == FOUND) {
                    n++;
                }
            }
            return n;
        }

        boolean canBeAdmitted() {
            if (lost || (holder != null && holder.role != JUDGE && holder.role != CLERK)) {
                return false;
            }
            for (int i = 0; i < chain.size(); i++) {
                if (chain.get(i).taints()) {
                    return false;
                }
            }
            return true;
        }
    }

    private static final class Link {
        final int day;
        // null for the room
        final Person from;
        final Person to;
        final int happened;

        Link(int day, Person from, Person to, int happened) {
            this.day = day;
            this.from = from;
            this.to = to;
            this.happened = happened;
        }

        /** Whether an exhibit with this link in its chain can no more be admitted. */
        boolean taints() {
            if (happened == FOUND) {
                return true;
            }
            if (to == null) {
                return false;
            }
            return to.role == PUBLIC || (happened == OPENED && to.role != JUDGE);
        }
    }

    private static final class Letter {
        final Document document;
        final int documentNumber;
        final Person person;
        final int due;
        int state = WAITS;
        int carriedOn = -1;

        Letter(Document document, int documentNumber, Person person, int due) {
            this.document = document;
            this.documentNumber = documentNumber;
            this.person = person;
            this.due = due;
        }
    }
}
