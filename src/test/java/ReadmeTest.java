import java.io.IOException;
import java.lang.reflect.Method;
import java.lang.reflect.Modifier;
import java.nio.charset.StandardCharsets;
import java.nio.file.Files;
import java.nio.file.Path;
import java.util.Set;
import java.util.TreeSet;
import java.util.regex.Matcher;
import java.util.regex.Pattern;
import java.util.stream.Stream;

/** README.md tells somebody who is new here what is so: its example, its calls, its numbers, its files. */
public final class ReadmeTest {
    private static final Check CHECK = new Check("ReadmeTest");
    private static final Pattern CODE_LINE = Pattern.compile("x\\.(\\w+)\\(([^)]*)\\);\\s*// (-?\\d+): .+");

    private static String file(String name) throws IOException {
        return Files.readString(Path.of(name), StandardCharsets.UTF_8);
    }

    private static void says(String page, String words) {
        CHECK.due("it says \"" + words + "\"", page.contains(words) ? 1 : 0, 1);
    }

    private static String first(String text, String pattern) {
        Matcher m = Pattern.compile(pattern, Pattern.DOTALL).matcher(text);
        return m.find() ? m.group(1) : "";
    }

    private static long ask(LeastNeed x, String name, String arguments) throws ReflectiveOperationException {
        String[] told = arguments.isBlank() ? new String[0] : arguments.split(",");
        Class<?>[] types = new Class<?>[told.length];
        Object[] with = new Object[told.length];
        for (int i = 0; i < told.length; i++) {
            types[i] = int.class;
            with[i] = Integer.parseInt(told[i].trim());
        }
        return ((Number) LeastNeed.class.getMethod(name, types).invoke(x, with)).longValue();
    }

    /** Each line behind the constructor answers what stands behind it. */
    private static void example(String page) throws ReflectiveOperationException {
        String[] lines = first(page, "```java\n(.*?)```").split("\n");
        CHECK.due("it makes an object first", lines[0].equals("LeastNeed x = new LeastNeed();") ? 1 : 0, 1);
        CHECK.due("it calls it", lines.length > 5 ? 1 : 0, 1);
        LeastNeed x = new LeastNeed();
        for (int i = 1; i < lines.length; i++) {
            Matcher m = CODE_LINE.matcher(lines[i]);
            if (!m.matches()) {
                CHECK.fail("not a call and its answer: " + lines[i]);
                continue;
            }
            CHECK.due(lines[i], ask(x, m.group(1), m.group(2)), Long.parseLong(m.group(3)));
        }
    }

    /** The table of calls names each one of the face and no other. */
    private static void calls(String page) {
        Set<String> due = new TreeSet<>();
        for (Method m : LeastNeed.class.getDeclaredMethods()) {
            if (Modifier.isPublic(m.getModifiers())) due.add(m.getName());
        }
        Set<String> got = new TreeSet<>();
        Matcher m = Pattern.compile("`(\\w+)`").matcher(first(page, "\\| what for \\| calls \\|\n(.*?)\n\n"));
        while (m.find()) got.add(m.group(1));
        CHECK.due("the calls, which are " + due + ", told as " + got, got.equals(due) ? 1 : 0, 1);
    }

    private static void numbers(String page) throws IOException {
        says(page, "| `NONE` | " + LeastNeed.NONE + " |");
        says(page, "| `BAD` | " + LeastNeed.BAD + " |");
        says(page, "| `NO` | " + LeastNeed.NO + " |");
        says(page, "| `FULL` | " + LeastNeed.FULL + " |");
        String most = first(file("../shared/DOC.md"), "at most (\\d+) calls");
        says(page, "at most " + most + " calls");
        LeastNeed x = new LeastNeed();
        CHECK.due("coats, refused", x.coats(0, 0, 0, 0), -10);
        CHECK.due("status, refused", x.status(3), -1);
        CHECK.due("counted", x.status(0), 2);
        CHECK.due("read, at fault", x.read(), -10);
        x.person(0, 0, 0, 0, 0, 0);
        x.person(0, 0, 0, 0, 0, 0);
        x.thing(0, 0, 0);
        CHECK.due("not so many", x.coats(0, 0, 1, 36), -5);
        CHECK.due("these are not", x.status(0) + x.status(1) + x.status(2), 2);
    }

    /** Each file told is there, and each test that is there is told. */
    private static void files(String page) throws IOException {
        String[] told = {"src/main/java/LeastNeed.java", "src/test/java", "src/test/java/helpers", "../shared/tests", ".ci/run",
            "../shared/DOC.md", "../shared/LANGUAGE.md", "NOTES.md"};
        for (String name : told) {
            says(page, "`" + name + "`");
            CHECK.due(name + " is there", Files.exists(Path.of(name)) ? 1 : 0, 1);
        }
        CHECK.due(".ci/run can be run", Files.isExecutable(Path.of(".ci/run")) ? 1 : 0, 1);
        Set<String> there = new TreeSet<>();
        try (Stream<Path> all = Files.list(Path.of("src/test/java"))) {
            all.map(one -> one.getFileName().toString()).filter(name -> name.endsWith(".java"))
                .forEach(name -> there.add(name.substring(0, name.length() - 5)));
        }
        Set<String> named = new TreeSet<>();
        Matcher m = Pattern.compile("`(\\w+Test)`").matcher(page);
        while (m.find()) named.add(m.group(1));
        CHECK.due("the tests, which are " + there + ", told as " + named, named.equals(there) ? 1 : 0, 1);
    }

    public static void main(String[] args) throws Exception {
        String page = file("README.md");
        example(page);
        calls(page);
        numbers(page);
        files(page);
        CHECK.end();
    }
}
