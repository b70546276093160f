import java.lang.management.ManagementFactory;
import java.lang.reflect.Constructor;
import java.lang.reflect.Field;
import java.lang.reflect.Method;
import java.lang.reflect.Modifier;
import java.nio.charset.StandardCharsets;
import java.nio.file.Files;
import java.nio.file.Path;
import java.util.ArrayList;
import java.util.Arrays;
import java.util.List;
import java.util.Set;
import java.util.TreeSet;
import java.util.regex.Pattern;

/** The rules of LANGUAGE.md that can be looked at from here, and that calls make no objects. */
public final class LanguageTest {
    private static final Check CHECK = new Check("LanguageTest");
    private static final String FACE = "valley() person(6) thing(3) type(1) clear() read() lose(1) back(1) coat(2) day(1) undo() "
        + "of(2) about(2) shows(2) comes(1) chain(2) ring(2) send(3) wears(3) costs() few(1) loser(2) note(6) came(4) forget(1) "
        + "is(1) watch(1) kinds(1) by(1) coats(4) odds(4) years(2) part(1) image(1) from(1) status(1) count(1) digest()";

    private static void face() {
        Set<String> due = new TreeSet<>(Arrays.asList(FACE.replace("()", "(0)").split(" ")));
        Set<String> got = new TreeSet<>();
        Set<String> names = new TreeSet<>();
        for (Method m : LeastNeed.class.getDeclaredMethods()) {
            if (m.isSynthetic() || Modifier.isPrivate(m.getModifiers())) continue;
            got.add(m.getName() + "(" + m.getParameterCount() + ")");
            names.add(m.getName());
            boolean wide = m.getName().equals("part") || m.getName().equals("digest");
            if (m.getReturnType() != (wide ? long.class : int.class)) CHECK.fail(m + " answers another type");
            if (m.getModifiers() != Modifier.PUBLIC) CHECK.fail(m + " is not public alone");
        }
        CHECK.due("the methods", got.equals(due) ? 1 : 0, 1);
        Set<String> constants = new TreeSet<>();
        for (Field f : LeastNeed.class.getDeclaredFields()) {
            if (!Modifier.isPrivate(f.getModifiers())) constants.add(f.getName());
            if (Modifier.isStatic(f.getModifiers()) && !Modifier.isFinal(f.getModifiers())) CHECK.fail(f + " is not final");
        }
        CHECK.due("the constants", constants.equals(new TreeSet<>(List.of("NONE", "BAD", "NO", "FULL"))) ? 1 : 0, 1);
        Constructor<?>[] made = LeastNeed.class.getDeclaredConstructors();
        CHECK.due("one constructor", made.length, 1);
        CHECK.due("the class", LeastNeed.class.getModifiers(), Modifier.PUBLIC | Modifier.FINAL);
        parts(LeastNeed.class, names);
        for (Class<?> inside : LeastNeed.class.getDeclaredClasses()) {
            if (!Modifier.isStatic(inside.getModifiers())) CHECK.fail(inside + " is not static");
            parts(inside, names);
        }
        if (LeastNeed.class.getDeclaredClasses().length > 11) CHECK.fail("more than twelve classes");
    }

    private static void parts(Class<?> one, Set<String> face) {
        int fields = 0;
        for (Field f : one.getDeclaredFields()) if (!Modifier.isStatic(f.getModifiers())) fields++;
        if (fields > 20) CHECK.fail(one + " has " + fields + " fields");
        for (Method m : one.getDeclaredMethods()) {
            if (m.getParameterCount() > 7) CHECK.fail(m + " takes too much");
            boolean ofTheFace = one == LeastNeed.class && Modifier.isPublic(m.getModifiers());
            if (!ofTheFace && face.contains(m.getName())) CHECK.fail(m + " bears a name of the face");
        }
    }

    private static void source() throws Exception {
        String text = Files.readString(Path.of("src/main/java/LeastNeed.java"), StandardCharsets.ISO_8859_1);
        String code = text.replaceAll("(?s)/\\*.*?\\*/", "").replaceAll("//[^\n]*", "");
        String[] forbidden = {"throw", "try", "catch", "finally", "synchronized", "assert", "import", "package", "float", "double",
            "equals", "hashCode", "toString", "System\\.(?!arraycopy)\\w+", "Thread", "Object", "var", "volatile", "transient",
            "native", "strictfp", "protected", "\\w+Exact"};
        for (String word : forbidden) {
            if (Pattern.compile("\\b" + word + "\\b").matcher(code).find()) CHECK.fail("the source says " + word);
        }
        for (String sign : new String[] {"->", "::", "\" +", "+ \""}) if (code.contains(sign)) CHECK.fail("the source says " + sign);
        for (int i = 0; i < text.length(); i++) if (text.charAt(i) > 126) CHECK.fail("a sign beyond 126 at " + i);
        int length = 0;
        for (String line : code.split("\n")) {
            boolean begins = line.matches("( {4}| {8})(public|private|static|final|int|long|void|boolean|[A-Z]\\w*)\\b.*\\(.*\\) \\{");
            length = begins ? 0 : length + 1;
            if (line.matches(" {4}\\}| {8}\\}") && length > 60) CHECK.fail("a long method ends at: " + line);
        }
    }

    private static void anyCalls(LeastNeed x, int a, int b) {
        x.person(a, b, a, b, a, b); x.thing(a, b, a); x.type(a); x.lose(a); x.back(b); x.coat(a, b); x.day(a); x.of(a, b);
        x.about(a, b); x.shows(a, b); x.comes(a); x.chain(a, b); x.ring(a, b); x.send(a, b, a); x.wears(a, b, a); x.costs();
        x.few(a); x.loser(a, b); x.note(a, b, a, b, a, b); x.came(a, b, a, b); x.forget(a); x.is(a); x.watch(b); x.kinds(a);
        x.by(b); x.coats(a, a, b, b); x.odds(a, b, a, b); x.years(a, b); x.part(a); x.image(a); x.from(b); x.status(a);
        x.count(a); x.digest(); x.read(); x.undo();
    }

    /** No arguments in any state may make a call throw. */
    private static void wildCalls() {
        int[] wild = {Integer.MIN_VALUE, -1000000, -10, -3, -2, -1, 0, 1, 2, 3, 4, 5, 6, 7, 9, 10, 30, 35, 50, 99, 150, 65536,
            999999, Integer.MAX_VALUE};
        for (int people = 0; people < 8; people++) {
            for (int a : wild) {
                LeastNeed x = new LeastNeed();
                for (int p = 0; p < people; p++) x.person(p % 6, 2 * p, p, 7 - p, p % 3, 9);
                for (int t = 0; t < people; t++) x.thing(t % 6, t % 4, t);
                try {
                    for (int b : new int[] {a, 0, 1, -1, wild[wild.length - 1], wild[0], people, 5}) anyCalls(x, a, b);
                } catch (RuntimeException | StackOverflowError thrown) {
                    CHECK.fail("people " + people + ", " + a + " threw " + thrown);
                }
            }
        }
        CHECK.due("wild calls", 0, 0);
    }

    /** One room for a whole run: rows are made in the constructor alone. */
    private static void objects() {
        com.sun.management.ThreadMXBean threads = (com.sun.management.ThreadMXBean) ManagementFactory.getThreadMXBean();
        long me = Thread.currentThread().getId();
        List<LeastNeed> made = new ArrayList<>();
        for (int i = 0; i < 8; i++) {
            LeastNeed x = new LeastNeed();
            x.person(0, 1, 2, 3, 4, 5);
            x.person(3, 5, 2, 3, 4, 5);
            x.thing(0, 0, 0);
            x.type(118);
            made.add(x);
        }
        long least = Long.MAX_VALUE;
        for (LeastNeed x : made) {
            long before = threads.getThreadAllocatedBytes(me);
            for (int a = 0; a < 3; a++) for (int b = 0; b < 3; b++) anyCalls(x, a, b);
            least = Math.min(least, threads.getThreadAllocatedBytes(me) - before);
        }
        if (least > 2000) CHECK.fail("324 calls made " + least + " bytes of objects");
    }

    public static void main(String[] args) throws Exception {
        face();
        source();
        wildCalls();
        objects();
        CHECK.end();
    }
}
