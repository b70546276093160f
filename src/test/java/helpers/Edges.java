import java.lang.reflect.InvocationTargetException;
import java.lang.reflect.Method;
import java.util.ArrayList;
import java.util.Arrays;
import java.util.List;
import java.util.TreeMap;
import java.util.stream.IntStream;

/**
 * What the tests of the boundary cases share. Such a test is a static method named promiseN_.. of a class below this one:
 * one sentence of promise N. All of them are run, and a promise without any is told as a fault.
 */
abstract class Edges {
    static final int NONE = -1, BAD = -2, NO = -3, FULL = -4;
    static final int PLAIN = 0, RICH = 1, PROUD = 2, MOODY = 3, MILLER = 4, NUN = 5;
    static final int PAIR = 1, ALIVE = 2, USELESS = 3, TWIN = 4, SHY = 5;
    static final int SIGHT = 0, LEGS = 1, PURSE = 2, COURAGE = 3;
    static final int HAD = 0, LOST = 1, BOUNDARY = 2;
    static final int MIN = Integer.MIN_VALUE, MAX = Integer.MAX_VALUE;
    /** The grounds of a refusal, as STATUS numbers them; none of them. */
    static final int AS_BAD = 0, AS_NO = 1, AS_FULL = 2, NOT_COUNTED = 3;

    private static Check check;
    private static String test = "";

    interface Made {
        LeastNeed make();
    }

    interface Ask {
        long of(LeastNeed x);
    }

    interface AskWith {
        long of(LeastNeed x, int argument);
    }

    static void due(String what, long got, long want) {
        check.due(test + ": " + what, got, want);
    }

    // ---- valleys to begin with

    /** Plain people with these needs of sight (and none of the others), all in house 0. */
    static LeastNeed plain(int... needs) {
        return housed(new int[needs.length], needs);
    }

    /** Plain people in these houses with these needs of sight. */
    static LeastNeed housed(int[] houses, int... needs) {
        LeastNeed x = new LeastNeed();
        for (int p = 0; p < needs.length; p++) x.person(PLAIN, houses[p], needs[p], 0, 0, 0);
        return x;
    }

    /** The same with a plain thing of sight, which person 0 has. */
    static LeastNeed withThing(int kind, LeastNeed x) {
        x.thing(kind, SIGHT, 0);
        return x;
    }

    /**
     * One of each kind. What they show of sorts 0 to 3 on day 0:
     * plain 5 1 9 0; rich 4 2 3 1; proud 3 3 3 3; moody 2 0 4 8; miller 4 3 0 2; nun 0 0 0 6.
     */
    static LeastNeed village() {
        LeastNeed x = new LeastNeed();
        x.person(PLAIN, 0, 5, 1, 9, 0);
        x.person(RICH, 3, 9, 4, 7, 2);
        x.person(PROUD, 6, 3, 3, 3, 3);
        x.person(MOODY, 9, 2, 0, 4, 8);
        x.person(MILLER, 13, 8, 6, 9, 5);
        x.person(NUN, 19, 7, 7, 7, 6);
        return x;
    }

    /** Three people, two things (one is lost), a note, a coming, a text that tells a valley, an image. */
    static LeastNeed small() {
        LeastNeed x = plain(3, 1, 2);
        x.thing(PLAIN, SIGHT, 0);
        x.thing(TWIN, COURAGE, 2);
        x.image(1);
        x.coat(1, 4);
        x.lose(1);
        x.note(1, 2, 3, 0, 5, 5);
        x.came(0, 0, 7, 2);
        x.odds(0, 2, 1, 3);
        write(x, "valley;person 5 19 9 0 5 1;days 7;");
        return x;
    }

    /** All places taken: seven people, five things (had, lost, on the boundary), six notes and comings, eight to undo. */
    static LeastNeed lived() {
        LeastNeed x = village();
        x.undo();
        x.person(PLAIN, 10, 1, 9, 0, 3);
        for (int t = 0; t < 5; t++) x.thing(t, t % 4, 6 - t);
        x.lose(2);
        x.day(1);
        x.image(0);
        for (int i = 0; i < 6; i++) {
            x.note(i, 1 + i, 2, i % 4, i, 3 + i);
            x.came(i % 5, i, 2 * i, 6);
        }
        for (int p = 0; p < 5; p++) x.coat(p, 9 - p);
        x.lose(0);
        x.lose(1);
        x.lose(4);
        x.day(2);
        x.lose(3);
        x.odds(3, 5, 2, 7);
        x.thing(9, 9, 9);
        write(x, "valley;person 0 1 2 3 4 5;person 1 2 3 4 5 6;thing 4 3 1;lose 0;days 33;".concat("days 1;".repeat(11)).concat(";"));
        return x;
    }

    /** A thing lost by one who is alone in the valley: it lies on the boundary. */
    static LeastNeed lying() {
        LeastNeed x = withThing(PLAIN, plain(0));
        x.lose(0);
        x.day(1);
        return x;
    }

    static LeastNeed onDay(int day, LeastNeed x) {
        for (int left = day; left > 0; left -= 99) x.day(Math.min(left, 99));
        return x;
    }

    static void write(LeastNeed x, String text) {
        x.clear();
        for (int i = 0; i < text.length(); i++) x.type(text.charAt(i));
    }

    static int readText(LeastNeed x, String text) {
        write(x, text);
        return x.read();
    }

    // ---- what a refused call leaves

    /** All that can be seen of it, its past, its images and its text too; it is no more the same behind this. */
    static List<Long> allOf(LeastNeed x) {
        List<Long> all = new ArrayList<>();
        for (int what = 0; what < 9; what++) all.add((long) x.count(what));
        all.add(x.part(0));
        all.add(x.part(1));
        for (int p = 0; p < x.count(0); p++) {
            all.add((long) x.of(p, 3));
            all.add((long) x.is(p));
        }
        for (int t = 0; t < x.count(1); t++) all.add((long) x.kinds(t));
        theWayBack(x, all);
        for (int i = 0; i < 2; i++) {
            all.add((long) x.from(i));
            theWayBack(x, all);
        }
        all.add((long) x.read());
        theWayBack(x, all);
        return all;
    }

    private static void theWayBack(LeastNeed x, List<Long> all) {
        all.add(x.digest());
        while (x.undo() != NO) all.add(x.digest());
    }

    /** It answers so, is counted on this ground alone, and leaves all else as it was. */
    static void refused(String what, Made made, Ask ask, long answer, int ground) {
        LeastNeed asked = made.make();
        LeastNeed other = made.make();
        due(what, ask.of(asked), answer);
        for (int i = 0; i < 3; i++) {
            due(what + ": STATUS " + i, asked.status(i), other.status(i) + (i == ground ? 1 : 0));
        }
        due(what + ": all stays", allOf(asked).equals(allOf(other)) ? 1 : 0, 1);
    }

    static void bad(String what, Made made, Ask ask) {
        refused(what, made, ask, BAD, AS_BAD);
    }

    static void no(String what, Made made, Ask ask) {
        refused(what, made, ask, NO, AS_NO);
    }

    static void full(String what, Made made, Ask ask) {
        refused(what, made, ask, FULL, AS_FULL);
    }

    /** A question: it answers so, is not counted as refused, and leaves all as it was. */
    static void asked(String what, Made made, Ask ask, long answer) {
        refused(what, made, ask, answer, NOT_COUNTED);
    }

    private static void taken(String what, Made made, Ask ask) {
        LeastNeed x = made.make();
        int before = x.status(0);
        long answer = ask.of(x);
        due(what + " is taken", answer == BAD || answer == -10 ? 0 : 1, 1);
        due(what + " is not counted as BAD", x.status(0), before);
    }

    // ---- the bounds of one argument

    /** From least to most it is taken; one below, one above and far beyond it is refused as BAD. */
    static void bounds(Made made, int least, int most, long answer, AskWith ask) {
        for (int v : new int[] {least, most}) taken("" + v, made, x -> ask.of(x, v));
        List<Integer> beyond = new ArrayList<>(List.of(MIN, least - 1));
        if (most < MAX) beyond.addAll(List.of(most + 1, MAX));
        for (int v : beyond) refused("" + v, made, x -> ask.of(x, v), answer, AS_BAD);
    }

    static void bounds(int least, int most, AskWith ask) {
        bounds(Edges::small, least, most, BAD, ask);
        bounds(Edges::lived, least, most, BAD, ask);
    }

    /** A number of somebody who is there: three of them, seven of them, none. */
    static void person(AskWith ask) {
        person(BAD, ask);
    }

    static void person(long answer, AskWith ask) {
        bounds(Edges::small, 0, 2, answer, ask);
        bounds(Edges::lived, 0, 6, answer, ask);
        for (int v : new int[] {NONE, 0, 1}) refused("nobody, " + v, LeastNeed::new, x -> ask.of(x, v), answer, AS_BAD);
    }

    /** A number of a thing that is there: two of them, five of them, none though there are people. */
    static void thing(AskWith ask) {
        thing(BAD, ask);
    }

    static void thing(long answer, AskWith ask) {
        bounds(Edges::small, 0, 1, answer, ask);
        bounds(Edges::lived, 0, 4, answer, ask);
        Made people = () -> plain(1, 2, 3, 4, 5, 6, 7);
        for (int v : new int[] {NONE, 0, 1}) refused("nothing, " + v, people, x -> ask.of(x, v), answer, AS_BAD);
    }

    // ---- running

    static int[] promises(int first, int last) {
        return IntStream.rangeClosed(first, last).toArray();
    }

    /** Runs all tests of that class; each of these promises has one there. */
    static void run(Class<?> tests, int... promises) {
        check = new Check(tests.getSimpleName());
        TreeMap<String, Method> all = new TreeMap<>();
        boolean[] tested = new boolean[40];
        for (Method m : tests.getDeclaredMethods()) {
            if (!m.getName().matches("promise[0-9]+_\\w+")) continue;
            int promise = Integer.parseInt(m.getName().substring(7, m.getName().indexOf('_')));
            tested[promise] = true;
            all.put(String.format("%02d %s", promise, m.getName()), m);
        }
        for (int promise : promises) {
            if (!tested[promise]) check.fail("promise " + promise + " has no test");
        }
        for (Method m : all.values()) runOne(m);
        System.out.println(tests.getSimpleName() + ": " + all.size() + " tests");
        check.end();
    }

    private static void runOne(Method m) {
        test = m.getName();
        try {
            m.setAccessible(true);
            m.invoke(null);
        } catch (InvocationTargetException thrown) {
            check.fail(test + " threw " + thrown.getCause() + " at " + Arrays.toString(thrown.getCause().getStackTrace()).split(",")[0]);
        } catch (IllegalAccessException | IllegalArgumentException thrown) {
            check.fail(test + " can not be run: " + thrown);
        }
    }
}
