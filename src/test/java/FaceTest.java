import java.lang.reflect.Constructor;
import java.lang.reflect.Field;
import java.lang.reflect.Method;
import java.lang.reflect.Modifier;
import java.nio.file.Files;
import java.nio.file.Path;
import java.util.ArrayList;
import java.util.Arrays;
import java.util.List;
import java.util.Set;
import java.util.TreeSet;

/** The public face, and what of LANGUAGE.md can be read off the class and its source. */
public final class FaceTest {
    private static final Path SOURCE = Path.of("src/main/java/CourtMail.java");
    private static final String X = " IndexOutOfBoundsException";
    private static final String A = " IllegalArgumentException";
    private static final String S = " IllegalStateException";
    private static final String[] FACE = {
        "int feed 5" + S, "int trim 1" + A, "int file 1" + X + S, "int errorAt 0", "int veil 4" + X + A,
        "int document 2" + X, "int open 1" + A + S, "int seal 2" + X + A, "int addPerson 2" + A + S,
        "boolean attach 2" + X, "int person 2" + X, "int caseOf 2" + X, "int read 2" + X, "int byteAt 1" + X,
        "int hidden 2" + X, "int differs 3" + X, "int find 2" + X, "int least 3" + X + A,
        "int lend 3" + X + A + S, "int back 1" + X, "int takeIn 1" + X + S, "int hand 2" + X + S,
        "int unseal 1" + X + S, "int lose 1" + X + S, "int found 2" + X + S, "int exhibit 2" + X,
        "int link 3" + X, "int send 3" + X + A + S, "int letter 2" + X, "int pass 1" + A, "int arrives 1" + X,
        "int count 1" + X, "int sees 1" + X, "double plain 0", "long digest 0"};

    private static int wrong = 0;

    public static void main(String[] args) throws Exception {
        checkFace();
        checkMembers();
        checkSource();
        System.out.println(wrong == 0 ? "the face and the source keep the rules" : wrong + " rules are broken");
        if (wrong != 0) {
            System.exit(1);
        }
    }

    private static void must(boolean good, String rule) {
        if (!good) {
            wrong++;
            System.out.println(rule);
        }
    }

    private static void checkFace() {
        Set<String> due = new TreeSet<>(Arrays.asList(FACE));
        Set<String> is = new TreeSet<>();
        for (Method m : CourtMail.class.getDeclaredMethods()) {
            if (Modifier.isPublic(m.getModifiers())) {
                is.add(signature(m));
            }
        }
        must(is.equals(due), "the face is " + is + ", due is " + due);
        must(Modifier.isPublic(CourtMail.class.getModifiers()), "the class is public");
        must(Modifier.isFinal(CourtMail.class.getModifiers()), "the class is final");
        must(CourtMail.class.getDeclaredConstructors().length == 1, "there is one constructor");
        for (Constructor<?> c : CourtMail.class.getDeclaredConstructors()) {
            must(Modifier.isPublic(c.getModifiers()) && c.getParameterCount() == 0, "it is public, without parameters");
        }
    }

    private static String signature(Method m) {
        StringBuilder s = new StringBuilder(m.getReturnType() + " " + m.getName() + " " + m.getParameterCount());
        for (Class<?> p : m.getParameterTypes()) {
            must(p == int.class, m.getName() + " takes ints");
        }
        for (Class<?> e : m.getExceptionTypes()) {
            s.append(' ').append(e.getSimpleName());
        }
        return s.toString();
    }

    private static void checkMembers() {
        Set<String> publicNames = new TreeSet<>();
        for (Method m : CourtMail.class.getDeclaredMethods()) {
            if (Modifier.isPublic(m.getModifiers())) {
                publicNames.add(m.getName());
            }
        }
        List<Class<?>> all = new ArrayList<>(Arrays.asList(CourtMail.class.getDeclaredClasses()));
        must(all.size() < 12, "at most some twelve classes");
        for (Class<?> inside : all) {
            must(Modifier.isStatic(inside.getModifiers()), inside + " is static");
            must(!Modifier.isPublic(inside.getModifiers()), inside + " is not public");
        }
        all.add(CourtMail.class);
        for (Class<?> one : all) {
            checkFields(one);
            for (Method m : one.getDeclaredMethods()) {
                boolean ofTheFace = one == CourtMail.class && Modifier.isPublic(m.getModifiers());
                must(ofTheFace || one != CourtMail.class || Modifier.isPrivate(m.getModifiers()), m + " is private");
                must(ofTheFace || !publicNames.contains(m.getName()), m + " bears the name of a public one");
                must(m.getParameterCount() <= 7, m + " takes at most seven parameters");
            }
        }
    }

    private static void checkFields(Class<?> one) {
        int own = 0;
        for (Field f : one.getDeclaredFields()) {
            boolean fixed = Modifier.isStatic(f.getModifiers());
            must(!fixed || Modifier.isFinal(f.getModifiers()), f + " is final");
            must(one != CourtMail.class || Modifier.isPrivate(f.getModifiers()), f + " is private");
            own += fixed ? 0 : 1;
        }
        must(own <= 20, one + " has at most some twenty fields");
    }

    private static void checkSource() throws Exception {
        List<String> lines = Files.readAllLines(SOURCE);
        String[] ruledOut = {"->", "::", "finally", "catch", "synchronized", "assert ", "instanceof", "Exact",
            "System.out", "Random", "nanoTime", "currentTime", "Thread", "package ", "record "};
        int start = -1;
        for (int i = 0; i < lines.size(); i++) {
            String line = lines.get(i);
            String code = line.replaceAll("\"[^\"]*\"", "\"\"").replaceAll("//.*|^\\s*/?\\*.*", "");
            must(line.chars().allMatch(b -> b >= 32 && b < 127), "line " + (i + 1) + " has another sign");
            for (String no : ruledOut) {
                must(!code.contains(no), "line " + (i + 1) + " has " + no);
            }
            must(!code.startsWith("import") || code.matches("import java\\.util\\.(ArrayList|Arrays);"),
                "line " + (i + 1) + " imports more");
            if (code.matches(" {4,8}\\S.*\\) ?(throws .*)?\\{") && !code.contains("class ")) {
                start = i;
            }
            if (code.matches(" {4,8}\\}") && start >= 0) {
                must(i - start <= 60, "line " + (start + 1) + " begins a long method");
            }
        }
    }
}
