/** Runs of calls, made by a fixed rule, whose answers CourtMail and Model have to share. */
public final class ModelTest {
    private static final int RUNS = 1000;
    // an object is used for so many calls at most
    private static final int CALLS = 512;
    private static final int KINDS = 34;

    private interface Answer {
        long get();
    }

    private long seed;
    private int wrong = 0;
    private int made = 0;
    private int thrown = 0;
    // calls that may be made in this run, and those that were
    private int limit;
    private int used;
    // the kinds of calls that this run favours: so one fills a chain, another the post, a third waits for days
    private final int[] favoured = new int[6];
    private final StringBuilder told = new StringBuilder();

    public static void main(String[] args) {
        ModelTest test = new ModelTest();
        for (int run = 0; run < RUNS && test.wrong == 0; run++) {
            test.run(run);
        }
        System.out.println(test.wrong == 0 ? test.made + " calls, all as due, " + test.thrown + " of them throw"
            : "CourtMail and its model differ");
        if (test.wrong != 0) {
            System.exit(1);
        }
    }

    private int below(int n) {
        seed = seed * 6364136223846793005L + 1442695040888963407L;
        return (int) ((seed >>> 33) % n);
    }

    /** Mostly 0 to n - 1, now and then beyond it. */
    private int near(int n) {
        int dice = below(40);
        if (dice == 0) {
            return -1 - below(2);
        }
        if (dice == 1) {
            return n + below(2);
        }
        if (dice == 2 && below(4) == 0) {
            return below(2) == 0 ? Integer.MIN_VALUE : Integer.MAX_VALUE;
        }
        return n <= 0 ? 0 : below(n);
    }

    /** A kind of call; every other run has favourites. */
    private int kind(int number) {
        return number % 2 == 0 || below(6) == 0 ? below(KINDS) : favoured[below(favoured.length)];
    }

    private void run(int number) {
        seed = number * 977L + 5;
        told.setLength(0);
        used = 0;
        limit = CALLS - 1;
        CourtMail x = new CourtMail();
        Model m = new Model();
        int tapes = number % 4;
        for (int i = 0; i < favoured.length; i++) {
            favoured[i] = below(KINDS);
        }
        for (int i = 0; i < 3 + below(4); i++) {
            int seal = below(3) * below(4);
            int role = below(4);
            int clearance = below(10);
            same("open " + seal, () -> x.open(seal), () -> m.open(seal));
            same("addPerson " + role + " " + clearance, () -> x.addPerson(role, clearance),
                () -> m.addPerson(role, clearance));
        }
        for (int i = 0; used < limit && wrong == 0; i++) {
            step(x, m, kind(number), tapes);
            if (i % 16 == 0) {
                same("digest", x::digest, m::digest);
                same("plain", () -> Double.doubleToLongBits(x.plain()), () -> Double.doubleToLongBits(m.plain()));
            }
        }
        limit = CALLS;
        same("digest", x::digest, m::digest);
    }

    private void same(String call, Answer one, Answer other) {
        if (used >= limit) {
            return;
        }
        used++;
        made++;
        told.append(call).append('\n');
        String a = answer(one);
        String b = answer(other);
        if (a.startsWith("throws")) {
            thrown++;
        }
        if (!a.equals(b)) {
            wrong++;
            System.out.println(told + "CourtMail: " + a + ", model: " + b);
        }
    }

    private static String answer(Answer call) {
        try {
            return String.valueOf(call.get());
        } catch (IndexOutOfBoundsException | IllegalArgumentException | IllegalStateException e) {
            return "throws " + e.getClass().getName();
        }
    }

    private void step(CourtMail x, Model m, int kind, int tapes) {
        int cases = m.count(1);
        int people = m.count(2);
        int docs = m.count(3);
        int things = m.count(4);
        int mails = m.count(5);
        int c = near(cases);
        int p = near(people);
        int q = near(people);
        int r = below(people + 1) - 1;
        int to = below(30) == 0 ? q : r;
        int d = near(docs);
        int e = near(things);
        int l = near(mails);
        int length = d >= 0 && d < docs ? m.document(d, 1) : 3;
        int from = near(length + 1);
        int behind = below(20) == 0 ? near(length + 1) : from + Math.max(0, below(Math.max(1, length - from + 1)));
        switch (kind) {
            case 0: case 1: case 2: write(x, m, tapes); break;
            case 3: case 4: same("file " + c, () -> x.file(c), () -> m.file(c));
                same("errorAt", x::errorAt, m::errorAt); break;
            case 5: int n = near(m.count(8) + 1);
                same("trim " + n, () -> x.trim(n), () -> m.trim(n)); break;
            case 6: int level = near(10);
                same("veil " + d + " " + from + " " + behind + " " + level, () -> x.veil(d, from, behind, level),
                    () -> m.veil(d, from, behind, level)); break;
            case 7: int k = near(8);
                same("document " + d + " " + k, () -> x.document(d, k), () -> m.document(d, k)); break;
            case 8: int seal = below(4) == 0 ? near(10) : below(5);
                if (below(4) == 0) {
                    same("open " + seal, () -> x.open(seal), () -> m.open(seal));
                } else {
                    same("seal " + c + " " + seal, () -> x.seal(c, seal), () -> m.seal(c, seal));
                }
                break;
            case 9: int role = near(4);
                int clearance = near(10);
                if (below(3) == 0) {
                    same("addPerson " + role + " " + clearance, () -> x.addPerson(role, clearance),
                        () -> m.addPerson(role, clearance));
                }
                break;
            case 10: same("attach " + p + " " + c, () -> x.attach(p, c) ? 1 : 0, () -> m.attach(p, c) ? 1 : 0); break;
            case 11: int w = near(8);
                same("person " + p + " " + w, () -> x.person(p, w), () -> m.person(p, w)); break;
            case 12: int v = near(5);
                same("caseOf " + c + " " + v, () -> x.caseOf(c, v), () -> m.caseOf(c, v)); break;
            case 13: same("read " + p + " " + d, () -> x.read(p, d), () -> m.read(p, d)); break;
            case 14: int i = near(m.count(9));
                same("byteAt " + i, () -> x.byteAt(i), () -> m.byteAt(i)); break;
            case 15: same("hidden " + p + " " + d, () -> x.hidden(p, d), () -> m.hidden(p, d)); break;
            case 16: same("differs " + p + " " + q + " " + d, () -> x.differs(p, q, d), () -> m.differs(p, q, d)); break;
            case 17: find(x, m, p, d); break;
            case 18: same("least " + d + " " + from + " " + behind, () -> x.least(d, from, behind),
                () -> m.least(d, from, behind)); break;
            case 19: case 20: int days = below(4) == 0 ? near(61) : 1 + below(3);
                same("lend " + d + " " + p + " " + days, () -> x.lend(d, p, days), () -> m.lend(d, p, days)); break;
            case 21: if (below(3) == 0) {
                    same("back " + d, () -> x.back(d), () -> m.back(d));
                }
                break;
            case 22: same("takeIn " + c, () -> x.takeIn(c), () -> m.takeIn(c)); break;
            case 23: case 24: same("hand " + e + " " + to, () -> x.hand(e, to), () -> m.hand(e, to)); break;
            case 25: same("unseal " + e, () -> x.unseal(e), () -> m.unseal(e)); break;
            case 26: if (below(3) == 0) {
                    same("lose " + e, () -> x.lose(e), () -> m.lose(e));
                }
                break;
            case 27: same("found " + e + " " + to, () -> x.found(e, to), () -> m.found(e, to)); break;
            case 28: int t = near(7);
                same("exhibit " + e + " " + t, () -> x.exhibit(e, t), () -> m.exhibit(e, t));
                int at = near(e >= 0 && e < things ? m.exhibit(e, 3) : 1);
                int u = near(4);
                same("link " + e + " " + at + " " + u, () -> x.link(e, at, u), () -> m.link(e, at, u)); break;
            case 29: case 30: int due = below(4) == 0 ? near(31) : below(4);
                same("send " + d + " " + p + " " + due, () -> x.send(d, p, due), () -> m.send(d, p, due)); break;
            case 31: int g = near(5);
                same("letter " + l + " " + g, () -> x.letter(l, g), () -> m.letter(l, g));
                same("arrives " + l, () -> x.arrives(l), () -> m.arrives(l)); break;
            case 32: int h = below(20) == 0 ? near(101) : below(3);
                same("arrives " + l, () -> x.arrives(l), () -> m.arrives(l));
                same("pass " + h, () -> x.pass(h), () -> m.pass(h)); break;
            default: int o = near(12);
                same("count " + o, () -> x.count(o), () -> m.count(o));
                same("sees " + c, () -> x.sees(c), () -> m.sees(c)); break;
        }
    }

    /** Writes bytes of a document that is mostly whole. */
    private void write(CourtMail x, Model m, int tapes) {
        StringBuilder s = new StringBuilder();
        body(s, 0, m, tapes);
        if (tapes == 0 && s.length() > 0) {
            // spoil one byte
            s.setCharAt(below(s.length()), "[]{}@:1a #\t".charAt(below(11)));
        }
        put(x, m, s.toString());
    }

    private void put(CourtMail x, Model m, String s) {
        int before = m.count(8);
        for (int i = 0; i < s.length(); i += 20) {
            int[] n = new int[5];
            for (int k = 0; k < 20; k++) {
                n[k / 4] = n[k / 4] << 8 | (i + k < s.length() ? s.charAt(i + k) : 32);
            }
            same("feed " + n[0] + " ..", () -> x.feed(n[0], n[1], n[2], n[3], n[4]),
                () -> m.feed(n[0], n[1], n[2], n[3], n[4]));
        }
        int length = Math.min(m.count(8), before + s.length());
        same("trim " + length, () -> x.trim(length), () -> m.trim(length));
    }

    private void body(StringBuilder s, int depth, Model m, int tapes) {
        int parts = below(depth == 0 ? 12 : 4);
        for (int i = 0; i < parts; i++) {
            int dice = below(10);
            if (dice < 3 && depth < (below(30) == 0 ? 6 : 5)) {
                s.append('[').append(1 + below(9)).append(':');
                body(s, depth + 1, m, tapes);
                s.append(']');
            } else if (dice < 5) {
                s.append('{');
                int letters = below(40) == 0 ? below(15) : 1 + below(5);
                for (int k = 0; k < letters; k++) {
                    s.append((char) ((below(2) == 0 ? 'a' : 'A') + below(26)));
                }
                s.append('}');
            } else if (dice < 7 && m.count(4) > 0 && below(3) == 0) {
                s.append('@');
                int n = tapes == 1 ? below(2) : below(m.count(4) + (below(20) == 0 ? 2 : 0));
                s.append("0".repeat(below(3))).append(n);
            } else {
                int letters = 1 + below(4);
                for (int k = 0; k < letters; k++) {
                    s.append("ab# \n*E0".charAt(below(8)));
                }
            }
        }
    }

    /** Looks for a piece of what the person sees, or for what the tape happens to be. */
    private void find(CourtMail x, Model m, int p, int d) {
        if (m.count(9) > 0 && below(2) == 0) {
            int from = below(m.count(9));
            int to = from + 1 + below(Math.min(6, m.count(9) - from));
            StringBuilder s = new StringBuilder();
            for (int i = from; i < to; i++) {
                s.append((char) m.byteAt(i));
            }
            same("trim 0", () -> x.trim(0), () -> m.trim(0));
            put(x, m, s.toString());
        }
        same("find " + p + " " + d, () -> x.find(p, d), () -> m.find(p, d));
    }
}
