import java.util.function.Consumer;
import java.util.function.ObjIntConsumer;
import java.util.function.Supplier;

/** What the tests share: comparing answers, refused calls, and writing texts onto the tape. */
final class Checks {
    static final Class<? extends RuntimeException> NO_INDEX = IndexOutOfBoundsException.class;
    static final Class<? extends RuntimeException> NO_ARGUMENT = IllegalArgumentException.class;
    static final Class<? extends RuntimeException> NO_STATE = IllegalStateException.class;

    // one fault of the class can show in thousands of checks
    private static final int MOST_TOLD = 100;

    private int wrong = 0;
    private int made = 0;

    interface Call {
        void run();
    }

    void due(String call, long got, long want) {
        made++;
        if (got != want) {
            tell(call + " answered " + got + ", due is " + want);
        }
    }

    void due(String call, boolean got, boolean want) {
        due(call, got ? 1 : 0, want ? 1 : 0);
    }

    void due(String call, double got, double want) {
        made++;
        if (got != want) {
            tell(call + " answered " + got + ", due is " + want);
        }
    }

    void due(String call, String got, String want) {
        made++;
        if (!got.equals(want)) {
            tell(call + " answered <" + got + ">, due is <" + want + ">");
        }
    }

    /** The call throws just this exception, and nothing that the room tells is another behind it. */
    void refused(String what, CourtMail x, Class<? extends RuntimeException> kind, Call call) {
        made++;
        long before = x.digest();
        int error = x.errorAt();
        try {
            call.run();
            tell(what + " does not throw, due is " + kind.getSimpleName());
        } catch (RuntimeException e) {
            if (e.getClass() != kind) {
                tell(what + " throws " + e + ", due is " + kind.getSimpleName());
            }
            // the class throws itself, no list or string does it for it
            if (!e.getStackTrace()[0].getClassName().equals("CourtMail")) {
                tell(what + " is thrown by " + e.getStackTrace()[0]);
            }
        }
        if (x.digest() != before || x.errorAt() != error) {
            tell(what + " throws, and changes something");
        }
    }

    /** As refused(), in a room of its own, which behind the call is as one in which it was never made. */
    void refusedIn(Supplier<CourtMail> room, String what, Class<? extends RuntimeException> kind,
            Consumer<CourtMail> call) {
        CourtMail x = room.get();
        refused(what, x, kind, () -> call.accept(x));
        due(what + ", and what is told later", Later.told(x), Later.told(room.get()));
    }

    /** The call takes the least and the greatest number, and refuses the first on either side and those far off. */
    void range(Supplier<CourtMail> room, String what, int least, int greatest, Class<? extends RuntimeException> kind,
            ObjIntConsumer<CourtMail> call) {
        taken(what + " with " + least, () -> call.accept(room.get(), least));
        taken(what + " with " + greatest, () -> call.accept(room.get(), greatest));
        outside(room, what, least, greatest, kind, call);
    }

    private void taken(String what, Call call) {
        made++;
        try {
            call.run();
        } catch (RuntimeException e) {
            tell(what + " throws " + e + ", due is an answer");
        }
    }

    /** The refusing part of range(). */
    void outside(Supplier<CourtMail> room, String what, int least, int greatest, Class<? extends RuntimeException> kind,
            ObjIntConsumer<CourtMail> call) {
        // 256, 65536 and the least number of all look like 0 to one who keeps only some of the bits
        for (int bad : new int[] {least - 1, greatest + 1, least - 256, Math.max(256, greatest + 1), 65536,
            Integer.MAX_VALUE, Integer.MIN_VALUE}) {
            if (bad < least || bad > greatest) {
                refusedIn(room, what + " with " + bad, kind, x -> call.accept(x, bad));
            }
        }
    }

    private void tell(String fault) {
        wrong++;
        if (wrong <= MOST_TOLD) {
            System.out.println(fault);
        }
    }

    void end() {
        System.out.println(wrong == 0 ? made + " checks, all as due" : wrong + " of " + made + " checks are wrong");
        if (wrong != 0) {
            System.exit(1);
        }
    }

    /** Appends the text to the tape; there has to be place for it rounded up to twenty bytes. */
    static void write(CourtMail x, String text) {
        int length = x.count(8);
        for (int i = 0; i < text.length(); i += 20) {
            x.feed(four(text, i), four(text, i + 4), four(text, i + 8), four(text, i + 12), four(text, i + 16));
        }
        x.trim(length + text.length());
    }

    private static int four(String text, int from) {
        int n = 0;
        for (int i = from; i < from + 4; i++) {
            n = n << 8 | (i < text.length() ? text.charAt(i) : 0);
        }
        return n;
    }

    /** Writes the text and files it. */
    static int file(CourtMail x, int ofCase, String text) {
        write(x, text);
        return x.file(ofCase);
    }

    /** What is on the paper. */
    static String paper(CourtMail x) {
        StringBuilder s = new StringBuilder();
        int bytes = x.count(9);
        for (int i = 0; i < bytes; i++) {
            s.append((char) x.byteAt(i));
        }
        return s.toString();
    }

    /** What the person reads; "none" if this one cannot see into the case. */
    static String read(CourtMail x, int person, int document) {
        return x.read(person, document) < 0 ? "none" : paper(x);
    }

    static String times(String text, int n) {
        return text.repeat(n);
    }
}
