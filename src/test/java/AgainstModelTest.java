import java.lang.reflect.Method;
import java.util.ArrayList;
import java.util.LinkedHashMap;
import java.util.List;
import java.util.Map;
import java.util.Random;

/** Random runs, each call asked of the program and of the model: all answers and digests must be alike. */
public final class AgainstModelTest {
    private static final Check CHECK = new Check("AgainstModelTest");
    private static final int RUNS = 1500;
    private static final int TEXTS = 3000;

    private record Call(String name, int weight, int[][] ranges) {
    }

    private static final List<Call> CALLS = new ArrayList<>();
    private static final Map<String, Method> MINE = new LinkedHashMap<>();
    private static final Map<String, Method> ITS = new LinkedHashMap<>();

    private static int[] r(int low, int high) {
        return new int[] {low, high};
    }

    private static void call(int weight, String name, int[]... ranges) throws Exception {
        CALLS.add(new Call(name, weight, ranges));
        Class<?>[] types = new Class<?>[ranges.length];
        java.util.Arrays.fill(types, int.class);
        MINE.put(name, LeastNeed.class.getDeclaredMethod(name, types));
        Method of = Model.class.getDeclaredMethod(name, types);
        of.setAccessible(true);
        ITS.put(name, of);
    }

    private static void tellCalls() throws Exception {
        int[] p = r(0, 6), t = r(0, 4), need = r(0, 9), two = r(0, 1);
        call(1, "valley");
        call(3, "person", r(0, 5), r(0, 19), need, need, need, need);
        call(3, "thing", r(0, 5), r(0, 3), p);
        call(4, "type", r(0, 127));
        call(1, "clear");
        call(1, "read");
        call(30, "lose", t);
        call(12, "back", t);
        call(25, "coat", p, need);
        call(20, "day", r(1, 3));
        call(2, "day", r(1, 99));
        call(12, "undo");
        call(5, "of", p, r(0, 7));
        call(5, "about", t, r(0, 4));
        call(5, "shows", p, r(0, 3));
        call(8, "comes", t);
        call(8, "chain", t, r(0, 50));
        call(8, "ring", t, two);
        call(12, "send", t, p, two);
        call(10, "wears", p, t, two);
        call(5, "costs");
        call(5, "few", r(0, 60));
        call(2, "few", r(0, 200));
        call(8, "loser", t, p);
        call(3, "note", p, need, need, r(0, 3), r(0, 99), r(0, 30));
        call(3, "came", t, p, r(0, 99), r(-1, 6));
        call(2, "forget", two);
        call(6, "is", p);
        call(10, "watch", p);
        call(6, "kinds", t);
        call(10, "by", t);
        call(6, "coats", t, p, p, r(-1, 3));
        call(2, "coats", t, p, p, r(-1, 40));
        call(8, "odds", t, p, r(0, 7), r(0, 10));
        call(8, "years", r(0, 999999), r(0, 60));
        call(6, "part", two);
        call(2, "image", two);
        call(2, "from", two);
        call(4, "status", r(0, 2));
        call(4, "count", r(0, 8));
        call(4, "digest");
    }

    private static final int[] EDGES = {Integer.MIN_VALUE, -10, -5, -4, -3, -2, -1, Integer.MAX_VALUE, 1000000, 128, 100};

    private static int pick(Random random, int[] range) {
        return range[0] + random.nextInt(range[1] - range[0] + 1);
    }

    private static Object[] arguments(Random random, Call call) {
        Object[] all = new Object[call.ranges.length];
        for (int i = 0; i < all.length; i++) {
            all[i] = pick(random, call.ranges[i]);
            if (random.nextInt(60) == 0) all[i] = EDGES[random.nextInt(EDGES.length)];
            if (random.nextInt(60) == 0) all[i] = call.ranges[i][random.nextInt(2)] + random.nextInt(3) - 1;
        }
        return all;
    }

    private static Call pickCall(Random random) {
        int sum = 0;
        for (Call c : CALLS) sum += c.weight;
        int x = random.nextInt(sum);
        for (Call c : CALLS) {
            x -= c.weight;
            if (x < 0) return c;
        }
        return CALLS.get(0);
    }

    private static boolean ask(String run, LeastNeed mine, Model model, String name, Object... with) throws Exception {
        long got = ((Number) MINE.get(name).invoke(mine, with)).longValue();
        long due = ((Number) ITS.get(name).invoke(model, with)).longValue();
        CHECK.due(run + ": " + name + java.util.Arrays.toString(with), got, due);
        return got == due;
    }

    private static void settle(Random random, LeastNeed mine, Model model, String run) throws Exception {
        int people = random.nextInt(8);
        int needs = random.nextInt(3) == 0 ? 3 : 10;
        int kinds = random.nextInt(3) == 0 ? 1 : 6;
        for (int i = 0; i < people; i++) {
            ask(run, mine, model, "person", random.nextInt(kinds), random.nextInt(20), random.nextInt(needs),
                random.nextInt(needs), random.nextInt(needs), random.nextInt(needs));
        }
        int things = people == 0 ? 0 : random.nextInt(6);
        for (int i = 0; i < things; i++) {
            ask(run, mine, model, "thing", random.nextInt(6), random.nextInt(4), random.nextInt(people));
        }
    }

    /** Notes and comings that are so for some kind, since wild ones fit none. */
    private static void tellTrue(Random random, LeastNeed mine, Model model, String run) throws Exception {
        if (model.now.people.isEmpty()) return;
        int p = random.nextInt(model.now.people.size());
        int n = random.nextInt(10), c = random.nextInt(10), s = random.nextInt(4), d = random.nextInt(100);
        ask(run, mine, model, "note", p, n, c, s, d, Model.PEOPLE[random.nextInt(6)].shows(n, c, s, d));
        if (model.now.things.isEmpty()) return;
        int t = random.nextInt(model.now.things.size());
        ask(run, mine, model, "came", t, p, d, model.now.goes(random.nextInt(6), model.now.things.get(t).sort, p, d));
    }

    private static void randomRun(int seed) throws Exception {
        Random random = new Random(seed);
        LeastNeed mine = new LeastNeed();
        Model model = new Model();
        String run = "run " + seed;
        settle(random, mine, model, run);
        int calls = 40 + random.nextInt(180);
        for (int i = 0; i < calls; i++) {
            Call call = pickCall(random);
            boolean alike = ask(run, mine, model, call.name, arguments(random, call));
            if (random.nextInt(30) == 0) tellTrue(random, mine, model, run);
            if (!alike || !ask(run, mine, model, "digest")) return;
        }
        for (int i = 0; i < 3; i++) ask(run, mine, model, "status", i);
    }

    private static String number(Random random, int high) {
        int x = random.nextInt(high + 1);
        return random.nextInt(6) == 0 && x < 10 ? "0" + x : "" + x;
    }

    private static String blanks(Random random, int least) {
        return " ".repeat(random.nextInt(5) == 0 ? least + random.nextInt(2) : least);
    }

    private static String item(Random random) {
        String[] words = {"person", "coat", "thing", "lose", "days", "person", "thing"};
        int[][] highs = {{5, 19, 9, 9, 9, 9}, {6, 9}, {5, 3, 6}, {4}, {99}, {5, 19, 9, 9, 9, 9}, {5, 3, 1}};
        int i = random.nextInt(words.length);
        StringBuilder out = new StringBuilder(blanks(random, 0)).append(words[i]).append(blanks(random, 0));
        for (int k = 0; k < highs[i].length; k++) {
            int high = highs[i][k] + (random.nextInt(40) == 0 ? 3 : 0);
            out.append(number(random, high)).append(blanks(random, k + 1 < highs[i].length ? 1 : 0));
        }
        return out.append(";").toString();
    }

    private static String text(Random random) {
        StringBuilder out = new StringBuilder(blanks(random, 0)).append("valley").append(blanks(random, 0)).append(";");
        int people = random.nextInt(9);
        for (int i = 0; i < people; i++) {
            if (random.nextInt(3) > 0) out.append("person").append(random.nextInt(6)).append(" 1 2 3 0 ").append(i).append(";");
        }
        int items = random.nextInt(9);
        for (int i = 0; i < items; i++) out.append(item(random));
        out.append(blanks(random, 0));
        if (random.nextInt(3) == 0 && out.length() > 0) {
            int at = random.nextInt(out.length());
            String wild = "abcxyz0123456789; ;\u0000\u007fZ{`/:person";
            switch (random.nextInt(4)) {
                case 0 -> out.setCharAt(at, wild.charAt(random.nextInt(wild.length())));
                case 1 -> out.insert(at, wild.charAt(random.nextInt(wild.length())));
                case 2 -> out.deleteCharAt(at);
                default -> out.setLength(at);
            }
        }
        if (out.length() > 150) out.setLength(150);
        return out.toString();
    }

    private static void randomText(int seed) throws Exception {
        Random random = new Random(seed);
        LeastNeed mine = new LeastNeed();
        Model model = new Model();
        String text = text(random);
        String run = "text " + seed + " \"" + text + "\"";
        settle(random, mine, model, run);
        for (char c : text.toCharArray()) ask(run, mine, model, "type", (int) c);
        ask(run, mine, model, "read");
        ask(run, mine, model, "digest");
        for (int i = 0; i < 25; i++) {
            Call call = pickCall(random);
            if (!ask(run, mine, model, call.name, arguments(random, call)) || !ask(run, mine, model, "digest")) return;
        }
    }

    public static void main(String[] args) throws Exception {
        tellCalls();
        for (int seed = 0; seed < RUNS && !CHECK.failed(); seed++) randomRun(seed);
        for (int seed = 0; seed < TEXTS && !CHECK.failed(); seed++) randomText(seed);
        CHECK.end();
    }
}
