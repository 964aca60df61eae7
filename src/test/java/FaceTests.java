import java.io.IOException;
import java.lang.management.ManagementFactory;
import java.lang.reflect.Field;
import java.lang.reflect.Method;
import java.lang.reflect.Modifier;
import java.nio.file.Files;
import java.nio.file.Path;
import java.util.Set;
import java.util.TreeSet;
import java.util.regex.Matcher;
import java.util.regex.Pattern;

/** The public face, the rules of the language that can be seen from outside, and the room that calls take. */
public final class FaceTests {
    private static final Set<String> FACE = Set.of(
        "int field(int,int)", "int range(int,int,int)", "int weighs(int,int,int)", "int round(int,int)",
        "int orders(int,int)", "int rule(int,int,int,int,int)", "int drops(int)", "int of(int,int)",
        "int about(int,int)", "int rows()", "int row(int,int)", "int heavy(int,int)", "int sums(int)",
        "int sum(int)", "int soft(int)", "int core()", "int draws(int,int)", "int drawn(int,int)",
        "int type(int)", "int clear()", "int reads()", "int back()", "int told(int)", "long digest()");
    private static final Set<String> CONSTANTS = Set.of("NONE", "BAD", "NO", "FULL");
    private static final String[] BANNED = {"throw", "throws", "try", "catch", "synchronized", "assert", "import",
        "package", "protected", "->", "::", "@", "equals", "hashCode", "toString", "static \\{", "while \\(true\\)",
        "for \\([^;)]*;\\s*;", "double", "float"};
    /** What the program uses of the library: LANGUAGE.md allows more, but what is new here is to be looked up there. */
    private static final Set<String> LIBRARY = Set.of("Integer.bitCount", "Long.bitCount", "System.arraycopy");
    private static final int MOST_LINES = 60;

    private static final String TEXT = "d1;f0 7;h2 0 1 0;s1 5 0 1 1;w0 0 1;r0;x0;o7;";

    private static int wrong = 0;

    private static void must(boolean holds, String what) {
        if (!holds) {
            wrong++;
            System.out.println("not so: " + what);
        }
    }

    private static String signature(Method m) {
        StringBuilder s = new StringBuilder(m.getReturnType().getName()).append(' ').append(m.getName()).append('(');
        for (Class<?> p : m.getParameterTypes()) {
            if (s.charAt(s.length() - 1) != '(') s.append(',');
            s.append(p.getName());
        }
        return s.append(')').toString();
    }

    private static void face() {
        Class<?> c = DrawnFields.class;
        must(Modifier.isPublic(c.getModifiers()) && Modifier.isFinal(c.getModifiers()), "the class is public and final");
        must(c.getDeclaredConstructors().length == 1 && c.getConstructors().length == 1, "one public constructor");
        Set<String> open = new TreeSet<>();
        Set<String> names = new TreeSet<>();
        for (Method m : c.getDeclaredMethods()) {
            if (Modifier.isPublic(m.getModifiers())) {
                open.add(signature(m));
                names.add(m.getName());
            } else {
                must(Modifier.isPrivate(m.getModifiers()), m + " is private");
            }
            must(m.getParameterCount() <= 7, m + " takes at most seven parameters");
        }
        for (Method m : c.getDeclaredMethods()) {
            must(Modifier.isPublic(m.getModifiers()) || !names.contains(m.getName()), m + " has a name of its own");
        }
        must(open.equals(FACE), "the public methods are those of the document");
        for (Class<?> inside : c.getDeclaredClasses()) {
            must(Modifier.isStatic(inside.getModifiers()), inside + " is static");
            for (Method m : inside.getDeclaredMethods()) {
                must(!names.contains(m.getName()), m + " does not bear a public method's name");
                must(m.getParameterCount() <= 7, m + " takes at most seven parameters");
            }
            for (Field f : inside.getDeclaredFields()) {
                must(!Modifier.isStatic(f.getModifiers()) || Modifier.isFinal(f.getModifiers()), f + " is final");
            }
            must(inside.getDeclaredFields().length <= 20, inside + " has at most twenty fields");
        }
        must(c.getDeclaredClasses().length < 12, "at most some twelve classes");
        fields(c);
    }

    private static void fields(Class<?> c) {
        Set<String> open = new TreeSet<>();
        for (Field f : c.getDeclaredFields()) {
            if (Modifier.isPublic(f.getModifiers())) {
                open.add(f.getName());
            } else {
                must(Modifier.isPrivate(f.getModifiers()), f + " is private");
            }
            if (Modifier.isStatic(f.getModifiers())) must(Modifier.isFinal(f.getModifiers()), f + " is final");
        }
        must(open.equals(CONSTANTS), "the public fields are the constants of the document");
        must(DrawnFields.NONE == -1 && DrawnFields.BAD == -2 && DrawnFields.NO == -3 && DrawnFields.FULL == -4,
            "the constants are as told");
    }

    private static void language() throws IOException {
        String source = Files.readString(Path.of("src/main/java/DrawnFields.java"));
        String code = source.replaceAll("(?s)/\\*.*?\\*/", "").replaceAll("//[^\n]*", "");
        for (String word : BANNED) {
            String edge = word.matches("[a-zA-Z]+") ? "\\b" : "";
            Matcher m = Pattern.compile(edge + word + edge).matcher(code);
            must(!m.find(), "the program has no " + word);
        }
        for (int i = 0; i < source.length(); i++) {
            must(source.charAt(i) < 128, "the source has only signs below 128");
        }
        library(code);
        lengths(code);
    }

    private static void library(String code) {
        Set<String> own = new TreeSet<>();
        for (Class<?> inside : DrawnFields.class.getDeclaredClasses()) own.add(inside.getSimpleName());
        Matcher m = Pattern.compile("\\b([A-Z]\\w*)\\.\\w+").matcher(code);
        while (m.find()) {
            must(own.contains(m.group(1)) || LIBRARY.contains(m.group()), m.group() + " is known");
        }
    }

    /** A method begins with a line that opens a body and ends with the next brace as far in. */
    private static void lengths(String code) {
        Matcher m = Pattern.compile("(?m)^((?: {4}){1,2})(?! )(?![^\n]*\\b(?:class|if|for|while|switch)\\b)"
            + "[^\n]*\\) \\{\n(?s:.*?)\n\\1\\}").matcher(code);
        int found = 0;
        while (m.find()) {
            found++;
            String body = m.group();
            must(body.split("\n").length <= MOST_LINES, body.substring(0, body.indexOf('\n')).trim() + ".. is short");
        }
        must(found > 80, "the methods were found, but only " + found);
    }

    private static long allocated() {
        com.sun.management.ThreadMXBean threads =
            (com.sun.management.ThreadMXBean) ManagementFactory.getThreadMXBean();
        return threads.getThreadAllocatedBytes(Thread.currentThread().getId());
    }

    private static int callAll(DrawnFields x, int n) {
        int mix = x.field(0, 7) + x.range(n % 4, n % 3, 7) + x.weighs(n % 4, n % 8, n % 10) + x.round(n % 4, 1);
        mix += x.orders(n % 4, (n + 1) % 4) + x.rule(n % 6, n % 4, (n + 1) % 4, 0, n % 11 - 1);
        mix += x.rule(3, 0, 0, n % 256, n % 11 - 1) + x.draws(n % 2, n) + x.drops(n % 9) + x.of(0, 5) + x.about(0, 5);
        mix += x.rows() + x.row(n, 0) + x.heavy(-1, 0) + x.heavy(1, 3) + x.sums(n) + x.sum(n) + x.soft(n) + x.core();
        mix += x.drawn(-1, 0) + x.type(' ') + x.reads() + (n % 7 == 0 ? x.back() : 0) + x.told(n % 7);
        return mix + (int) x.digest();
    }

    /** All that an object needs is made with it: calls make nothing, whatever a run asks. */
    private static void room() {
        DrawnFields[] objects = new DrawnFields[220];
        for (int i = 0; i < objects.length; i++) objects[i] = new DrawnFields();
        int mix = callAll(objects[0], 0);
        allocated();
        long before = allocated();
        for (int i = 1; i < objects.length; i++) {
            for (int n = 0; n < TEXT.length(); n++) mix += objects[i].type(TEXT.charAt(n));
            for (int n = 0; n < 16; n++) mix += callAll(objects[i], i + n);
            mix += objects[i].clear() + objects[i].reads();
        }
        long made = allocated() - before;
        must(made < 4096, "calls make no objects, but " + made + " bytes were made (" + mix + ")");
        before = allocated();
        for (int i = 0; i < objects.length; i++) objects[i] = new DrawnFields();
        long each = (allocated() - before) / objects.length;
        must(each < 20000, "an object takes less than 20,000 bytes, but it took " + each);
    }

    public static void main(String[] args) throws IOException {
        face();
        language();
        room();
        System.out.println(wrong == 0 ? "face, language and room are as due" : wrong + " things are not as due");
        if (wrong != 0) System.exit(1);
    }
}
