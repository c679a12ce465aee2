import java.util.ArrayList;
import java.util.List;

/**
 * The court's mail room once more, in another way: texts are strings, an error is found by trying every
 * beginning of the tape, and arrives() lives the days in a copy. ModelTest compares it with CourtMail.
 */
final class Model {
    private static final class Doc {
        int ofCase;
        String text = "";
        List<Integer> levels = new ArrayList<>();
        List<Boolean> marks = new ArrayList<>();
        List<Integer> named = new ArrayList<>();
        int holder = -1;
        int by = -1;
        int log;
    }

    private static final class Thing {
        int ofCase;
        int holder = -1;
        int sealNumber;
        List<int[]> chain = new ArrayList<>();
    }

    private int day;
    private String tape = "";
    private String paper = "";
    private int error = -1;
    private final List<Integer> seals = new ArrayList<>();
    // role, clearance, attached, warnings
    private final List<int[]> people = new ArrayList<>();
    private final List<Doc> docs = new ArrayList<>();
    private final List<Thing> things = new ArrayList<>();
    // document, person, due, state, day
    private final List<int[]> letters = new ArrayList<>();

    private static void index(boolean good) {
        if (!good) {
            throw new IndexOutOfBoundsException();
        }
    }

    private static void argument(boolean good) {
        if (!good) {
            throw new IllegalArgumentException();
        }
    }

    private static void state(boolean good) {
        if (!good) {
            throw new IllegalStateException();
        }
    }

    private static boolean in(int i, int from, int to) {
        return from <= i && i <= to;
    }

    private void hasCase(int i) {
        index(in(i, 0, seals.size() - 1));
    }

    private void hasPerson(int i) {
        index(in(i, 0, people.size() - 1));
    }

    private void hasDoc(int i) {
        index(in(i, 0, docs.size() - 1));
    }

    private void hasThing(int i) {
        index(in(i, 0, things.size() - 1));
    }

    int feed(int a, int b, int c, int d, int e) {
        state(tape.length() + 20 <= 1000);
        StringBuilder s = new StringBuilder(tape);
        for (int n : new int[] {a, b, c, d, e}) {
            for (int k = 3; k >= 0; k--) {
                s.append((char) Math.floorMod(n >> 8 * k, 256));
            }
        }
        tape = s.toString();
        return tape.length();
    }

    int trim(int n) {
        argument(in(n, 0, tape.length()));
        tape = tape.substring(0, n);
        return n;
    }

    int file(int ofCase) {
        hasCase(ofCase);
        state(docs.size() < 24);
        String t = tape;
        tape = "";
        error = -1;
        int good = 0;
        while (good < t.length() && isBeginning(t.substring(0, good + 1))) {
            good++;
        }
        if (good < t.length() || !isDocument(t)) {
            error = good;
            return -1;
        }
        for (int i = 0; i < t.length(); i++) {
            if (t.charAt(i) == '@') {
                int n = Integer.parseInt(t.substring(i + 1, endOfNumber(t, i)));
                if (n >= things.size() || things.get(n).ofCase != ofCase) {
                    error = i;
                    return -2;
                }
            }
        }
        docs.add(made(ofCase, t));
        return docs.size() - 1;
    }

    private static int endOfNumber(String t, int at) {
        int k = at + 1;
        while (k < t.length() && k < at + 4 && Character.isDigit(t.charAt(k))) {
            k++;
        }
        return k;
    }

    /** Whether bytes can be put behind these so that a document comes of it. */
    private static boolean isBeginning(String t) {
        String cut = t;
        if (t.matches("(?s).*\\{[A-Za-z]{0,11}")) {
            cut = t + "a}";
        } else if (t.matches("(?s).*\\{[A-Za-z]{12}")) {
            cut = t + "}";
        } else if (t.endsWith("@")) {
            cut = t + "1";
        } else if (t.endsWith("[")) {
            cut = t + "1:";
        } else if (t.matches("(?s).*\\[[1-9]")) {
            cut = t + ":";
        }
        for (int i = 0; i <= 6; i++) {
            if (isDocument(cut)) {
                return true;
            }
            cut = cut + "]";
        }
        return false;
    }

    private static boolean isDocument(String t) {
        // away with names and exhibits, then with the innermost veils, five times at most
        String s = t.replaceAll("\\{[A-Za-z]{1,12}\\}", "n").replaceAll("@[0-9]{1,3}", "e");
        for (int i = 0; i < 5; i++) {
            s = s.replaceAll("\\[[1-9]:[\\n -~&&[^\\[\\]{}@]]*\\]", "v");
        }
        for (char b : s.toCharArray()) {
            if (b != 10 && !in(b, 32, 126) || "[]{}@".indexOf(b) >= 0) {
                return false;
            }
        }
        return true;
    }

    private static Doc made(int ofCase, String t) {
        Doc d = new Doc();
        d.ofCase = ofCase;
        List<Integer> around = new ArrayList<>();
        boolean name = false;
        boolean first = false;
        for (int i = 0; i < t.length(); i++) {
            char b = t.charAt(i);
            if (b == '[') {
                around.add(t.charAt(i + 1) - '0');
                i += 2;
            } else if (b == ']') {
                around.remove(around.size() - 1);
            } else if (b == '{') {
                name = true;
                first = true;
            } else if (b == '}') {
                name = false;
            } else if (b == '@') {
                int end = endOfNumber(t, i);
                int n = Integer.parseInt(t.substring(i + 1, end));
                d.named.add(n);
                for (char e : ("Ex. " + n).toCharArray()) {
                    add(d, e, around, false);
                }
                i = end - 1;
            } else {
                add(d, b, around, name && !first);
                first = false;
            }
        }
        return d;
    }

    private static void add(Doc d, char b, List<Integer> around, boolean mark) {
        d.text = d.text + b;
        d.levels.add(around.stream().mapToInt(n -> n).max().orElse(0));
        d.marks.add(mark);
    }

    int errorAt() {
        return error;
    }

    int veil(int document, int from, int to, int level) {
        hasDoc(document);
        Doc d = docs.get(document);
        argument(0 <= from && from <= to && to <= d.text.length() && in(level, 0, 9));
        int n = 0;
        for (int i = from; i < to; i++) {
            n += d.levels.set(i, level) == level ? 0 : 1;
        }
        return n;
    }

    int document(int document, int what) {
        index(in(document, 0, docs.size() - 1) && in(what, 0, 7));
        Doc d = docs.get(document);
        return new int[] {d.ofCase, d.text.length(), (int) d.levels.stream().filter(n -> n > 0).count(),
            d.levels.stream().mapToInt(n -> n).max().orElse(0), (int) d.marks.stream().filter(m -> m).count(),
            d.holder, d.by, d.log}[what];
    }

    int open(int seal) {
        argument(in(seal, 0, 9));
        state(seals.size() < 8);
        seals.add(seal);
        return seals.size() - 1;
    }

    int seal(int ofCase, int seal) {
        hasCase(ofCase);
        argument(in(seal, 0, 9));
        return seals.set(ofCase, seal);
    }

    int addPerson(int role, int clearance) {
        argument(in(role, 0, 3) && in(clearance, 0, 9));
        state(people.size() < 12);
        people.add(new int[] {role, clearance, 0, 0});
        return people.size() - 1;
    }

    boolean attach(int person, int ofCase) {
        hasPerson(person);
        hasCase(ofCase);
        people.get(person)[2] ^= 1 << ofCase;
        return (people.get(person)[2] & 1 << ofCase) != 0;
    }

    private int reach(int person, int ofCase) {
        int[] p = people.get(person);
        int more = (p[2] & 1 << ofCase) != 0 ? 2 : 0;
        return p[0] == 1 || p[1] + more > 9 ? 9 : p[1] + more;
    }

    private boolean into(int person, int ofCase) {
        return seals.get(ofCase) <= reach(person, ofCase);
    }

    /** What is seen with a reach. */
    private static String seen(Doc d, int reach) {
        StringBuilder s = new StringBuilder();
        for (int i = 0; i < d.text.length(); i++) {
            char b = d.text.charAt(i);
            if (b != 10 && d.levels.get(i) > reach) {
                b = '#';
            } else if (d.marks.get(i) && reach == 0) {
                b = '*';
            }
            s.append(b);
        }
        return s.toString();
    }

    /** What a person sees; bytes 0 if of another case. */
    private String seenBy(int person, int document) {
        Doc d = docs.get(document);
        return into(person, d.ofCase) ? seen(d, reach(person, d.ofCase))
            : String.valueOf((char) 0).repeat(d.text.length());
    }

    int person(int person, int what) {
        index(in(person, 0, people.size() - 1) && in(what, 0, 7));
        int[] p = people.get(person);
        int cases = 0;
        for (int i = 0; i < seals.size(); i++) {
            cases += into(person, i) ? 1 << i : 0;
        }
        return new int[] {p[0], p[1], p[2], cases, p[3],
            (int) docs.stream().filter(d -> d.holder == person).count(),
            (int) things.stream().filter(t -> t.holder == person).count(),
            (int) letters.stream().filter(l -> l[1] == person && l[3] == 1).count()}[what];
    }

    int caseOf(int ofCase, int what) {
        index(in(ofCase, 0, seals.size() - 1) && in(what, 0, 4));
        int who = 0;
        for (int i = 0; i < people.size(); i++) {
            who += into(i, ofCase) ? 1 : 0;
        }
        return new int[] {seals.get(ofCase), (int) docs.stream().filter(d -> d.ofCase == ofCase).count(),
            (int) things.stream().filter(t -> t.ofCase == ofCase).count(),
            (int) things.stream().filter(t -> t.ofCase == ofCase && admitted(t)).count(), who}[what];
    }

    int read(int person, int document) {
        hasPerson(person);
        hasDoc(document);
        if (!into(person, docs.get(document).ofCase)) {
            return -1;
        }
        paper = seenBy(person, document);
        docs.get(document).log |= 1 << person;
        return paper.length();
    }

    int byteAt(int i) {
        index(in(i, 0, paper.length() - 1));
        return paper.charAt(i);
    }

    int hidden(int person, int document) {
        hasPerson(person);
        hasDoc(document);
        int n = 0;
        for (int i = 0; i < docs.get(document).text.length(); i++) {
            n += seenBy(person, document).charAt(i) == docs.get(document).text.charAt(i) ? 0 : 1;
        }
        return n;
    }

    int differs(int a, int b, int document) {
        hasPerson(a);
        hasPerson(b);
        hasDoc(document);
        String one = seenBy(a, document);
        String other = seenBy(b, document);
        int i = 0;
        while (i < one.length() && one.charAt(i) == other.charAt(i)) {
            i++;
        }
        return i < one.length() ? i : -1;
    }

    int find(int person, int document) {
        hasPerson(person);
        hasDoc(document);
        return tape.isEmpty() || !into(person, docs.get(document).ofCase) ? -1
            : seenBy(person, document).indexOf(tape);
    }

    int least(int document, int from, int to) {
        hasDoc(document);
        Doc d = docs.get(document);
        argument(0 <= from && from <= to && to <= d.text.length());
        int reach = 0;
        while (seals.get(d.ofCase) > reach
            || !seen(d, reach).substring(from, to).equals(d.text.substring(from, to))) {
            reach++;
        }
        return reach;
    }

    int lend(int document, int person, int days) {
        hasDoc(document);
        hasPerson(person);
        argument(in(days, 1, 60));
        Doc d = docs.get(document);
        state(d.holder == -1 && hidden(person, document) == 0);
        d.holder = person;
        d.by = day + days;
        return d.by;
    }

    int back(int document) {
        hasDoc(document);
        Doc d = docs.get(document);
        int who = d.holder;
        d.holder = -1;
        d.by = -1;
        return who;
    }

    int takeIn(int ofCase) {
        hasCase(ofCase);
        state(things.size() < 20);
        Thing t = new Thing();
        t.ofCase = ofCase;
        t.sealNumber = 1000 + things.size();
        things.add(t);
        return things.size() - 1;
    }

    int hand(int exhibit, int to) {
        hasThing(exhibit);
        index(in(to, -1, people.size() - 1));
        Thing t = things.get(exhibit);
        state(t.holder != -2);
        state(t.holder != to);
        state(t.chain.size() < 12);
        state(to == -1 || into(to, t.ofCase));
        t.chain.add(new int[] {day, t.holder, to, 0});
        t.holder = to;
        return t.chain.size();
    }

    int unseal(int exhibit) {
        hasThing(exhibit);
        Thing t = things.get(exhibit);
        state(t.holder >= 0 && t.chain.size() < 12);
        t.chain.add(new int[] {day, t.holder, t.holder, 2});
        t.sealNumber = (int) ((t.sealNumber * 31L + day) % 10007);
        return t.sealNumber;
    }

    int lose(int exhibit) {
        hasThing(exhibit);
        Thing t = things.get(exhibit);
        state(t.holder != -2);
        int who = t.holder;
        t.holder = -2;
        return who;
    }

    int found(int exhibit, int by) {
        hasThing(exhibit);
        index(in(by, -1, people.size() - 1));
        Thing t = things.get(exhibit);
        state(t.holder == -2 && t.chain.size() < 12);
        t.chain.add(new int[] {day, -1, by, 1});
        t.holder = by;
        return t.chain.size();
    }

    private int role(int person) {
        return person < 0 ? -1 : people.get(person)[0];
    }

    private boolean admitted(Thing t) {
        boolean good = t.holder == -1 || role(t.holder) == 1 || role(t.holder) == 0;
        for (int[] l : t.chain) {
            good = good && l[3] != 1 && role(l[2]) != 3 && !(l[3] == 2 && role(l[1]) != 1);
        }
        return good;
    }

    int exhibit(int exhibit, int what) {
        index(in(exhibit, 0, things.size() - 1) && in(what, 0, 6));
        Thing t = things.get(exhibit);
        return new int[] {t.ofCase, t.holder, t.sealNumber, t.chain.size(),
            (int) t.chain.stream().filter(l -> l[3] == 1).count(), admitted(t) ? 1 : 0,
            (int) docs.stream().filter(d -> d.named.contains(exhibit)).count()}[what];
    }

    int link(int exhibit, int link, int what) {
        hasThing(exhibit);
        index(in(link, 0, things.get(exhibit).chain.size() - 1) && in(what, 0, 3));
        return things.get(exhibit).chain.get(link)[what];
    }

    int send(int document, int person, int days) {
        hasDoc(document);
        hasPerson(person);
        argument(in(days, 0, 30));
        state(letters.size() < 40);
        letters.add(new int[] {document, person, day + days, 0, -1});
        return letters.size() - 1;
    }

    int letter(int letter, int what) {
        index(in(letter, 0, letters.size() - 1) && in(what, 0, 4));
        return letters.get(letter)[what];
    }

    int pass(int days) {
        argument(in(days, 1, 100));
        int n = 0;
        for (int i = 0; i < days; i++) {
            n += passOne();
        }
        return n;
    }

    private int passOne() {
        int carried = 3 * (int) people.stream().filter(p -> p[0] == 0).count();
        List<int[]> waiting = new ArrayList<>();
        letters.stream().filter(l -> l[3] == 0).forEach(waiting::add);
        waiting.sort((a, b) -> Integer.compare(a[2], b[2]));
        int n = 0;
        for (int[] l : waiting.subList(0, Math.min(carried, waiting.size()))) {
            boolean good = into(l[1], docs.get(l[0]).ofCase);
            l[3] = good ? 1 : 2;
            l[4] = day;
            if (good) {
                docs.get(l[0]).log |= 1 << l[1];
                n++;
            }
        }
        day++;
        for (Doc d : docs) {
            if (d.holder >= 0 && d.by < day) {
                int[] p = people.get(d.holder);
                p[3]++;
                if (p[3] == 3) {
                    p[3] = 0;
                    p[1] = p[1] == 0 ? 0 : p[1] - 1;
                }
                d.holder = -1;
                d.by = -1;
            }
        }
        return n;
    }

    int arrives(int letter) {
        index(in(letter, 0, letters.size() - 1));
        Model copy = copy();
        int days = 0;
        while (copy.letters.get(letter)[3] == 0 && days < 20) {
            copy.passOne();
            days++;
        }
        return copy.letters.get(letter)[3] == 1 ? days : -1;
    }

    private Model copy() {
        Model m = new Model();
        m.day = day;
        m.seals.addAll(seals);
        people.forEach(p -> m.people.add(p.clone()));
        letters.forEach(l -> m.letters.add(l.clone()));
        for (Doc d : docs) {
            Doc e = new Doc();
            e.ofCase = d.ofCase;
            e.holder = d.holder;
            e.by = d.by;
            m.docs.add(e);
        }
        return m;
    }

    int count(int what) {
        index(in(what, 0, 11));
        return new int[] {day, seals.size(), people.size(), docs.size(), things.size(), letters.size(),
            (int) letters.stream().filter(l -> l[3] == 0).count(),
            (int) letters.stream().filter(l -> l[3] == 1).count(), tape.length(), paper.length(),
            (int) things.stream().filter(t -> t.holder == -2).count(),
            (int) docs.stream().filter(d -> d.holder != -1).count()}[what];
    }

    int sees(int ofCase) {
        hasCase(ofCase);
        int best = -1;
        int most = 0;
        for (int i = people.size() - 1; i >= 0; i--) {
            int n = 0;
            for (int k = 0; k < docs.size(); k++) {
                n += docs.get(k).ofCase == ofCase ? docs.get(k).text.length() - hidden(i, k) : 0;
            }
            if (role(i) >= 2 && n > 0 && n >= most) {
                best = i;
                most = n;
            }
        }
        return best;
    }

    double plain() {
        double all = 0;
        double open = 0;
        for (Doc d : docs) {
            all += d.text.length();
            open += d.levels.stream().filter(n -> n == 0).count();
        }
        return all == 0 ? 1 : open / all;
    }

    long digest() {
        List<Integer> all = new ArrayList<>();
        for (int k = 0; k < 12; k++) {
            all.add(count(k));
        }
        for (int i = 0; i < 5 * seals.size(); i++) {
            all.add(caseOf(i / 5, i % 5));
        }
        for (int i = 0; i < 8 * people.size(); i++) {
            all.add(person(i / 8, i % 8));
        }
        for (int i = 0; i < docs.size(); i++) {
            for (int k = 0; k < 8; k++) {
                all.add(document(i, k));
            }
            for (int k = 0; k < docs.get(i).text.length(); k++) {
                all.add((int) docs.get(i).text.charAt(k));
                all.add(docs.get(i).levels.get(k));
            }
        }
        for (int i = 0; i < things.size(); i++) {
            for (int k = 0; k < 7; k++) {
                all.add(exhibit(i, k));
            }
            for (int[] l : things.get(i).chain) {
                for (int n : l) {
                    all.add(n);
                }
            }
        }
        letters.forEach(l -> {
            for (int n : l) {
                all.add(n);
            }
        });
        paper.chars().forEach(all::add);
        long d = 653;
        for (int n : all) {
            d = d * 31 + n;
        }
        return d;
    }
}
