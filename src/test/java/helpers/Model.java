import java.math.BigInteger;
import java.util.ArrayDeque;
import java.util.ArrayList;
import java.util.Arrays;
import java.util.Deque;
import java.util.HashMap;
import java.util.LinkedHashSet;
import java.util.List;
import java.util.Map;
import java.util.regex.Matcher;
import java.util.regex.Pattern;

/**
 * The document once more, in another form: kinds as classes under one another,
 * questions answered by trying everything, states kept as whole copies.
 */
final class Model {
    static final int NONE = -1, BAD = -2, NO = -3, FULL = -4;

    // ---- kinds of people

    static class Plain {
        int shows(int n, int c, int s, int d) { return n + c; }
        int asks(int x) { return x > 9 ? 0 : 9 - x; }
    }

    static class Rich extends Plain {
        @Override int shows(int n, int c, int s, int d) { return super.shows(n, c, s, d) >> 1; }
        @Override int asks(int x) { return super.asks(x) * 2; }
    }

    static class Proud extends Plain {
        @Override int shows(int n, int c, int s, int d) { return super.shows(n, 0, s, d); }
    }

    static class Moody extends Plain {
        @Override int shows(int n, int c, int s, int d) { return super.shows(n, c, s, d) + (d & 1) * 2; }
    }

    static class Miller extends Rich {
        @Override int shows(int n, int c, int s, int d) { return s == 2 ? 0 : super.shows(n, c, s, d); }
        @Override int asks(int x) { return super.asks(x) + 3; }
    }

    static class Nun extends Proud {
        @Override int shows(int n, int c, int s, int d) { return s == 3 ? super.shows(n, c, s, d) : 0; }
        @Override int asks(int x) { return 0; }
    }

    static final Plain[] PEOPLE = {new Plain(), new Rich(), new Proud(), new Moody(), new Miller(), new Nun()};

    // ---- kinds of things

    static class PlainThing {
        Integer counts(int x, int y, int f) { return x; }
        boolean boundary() { return true; }
    }

    static class Pair extends PlainThing {
        @Override Integer counts(int x, int y, int f) { return super.counts(x, y, f) + y; }
    }

    static class Alive extends PlainThing {
        @Override Integer counts(int x, int y, int f) { return f > 6 ? null : super.counts(x, y, f); }
    }

    static class Useless extends PlainThing {
        @Override Integer counts(int x, int y, int f) { return 40 - super.counts(x, y, f); }
    }

    static class Twin extends Pair {
        @Override boolean boundary() { return false; }
    }

    static class Shy extends Alive {
        @Override Integer counts(int x, int y, int f) {
            Integer alive = super.counts(x, y, f);
            return alive == null ? null : (Integer) (alive + f);
        }
    }

    static final PlainThing[] THINGS =
        {new PlainThing(), new Pair(), new Alive(), new Useless(), new Twin(), new Shy()};

    // ---- state

    static final class Person {
        int kind, house, coat;
        int[] needs;
        Person copy() {
            Person p = new Person();
            p.kind = kind; p.house = house; p.coat = coat; p.needs = needs.clone();
            return p;
        }
    }

    static final class Thing {
        int kind, sort, owner, who, how;
        Thing copy() {
            Thing t = new Thing();
            t.kind = kind; t.sort = sort; t.owner = owner; t.who = who; t.how = how;
            return t;
        }
    }

    static final class State {
        List<Person> people = new ArrayList<>();
        List<Thing> things = new ArrayList<>();
        int day = 0;
        List<int[]> notes = new ArrayList<>();
        List<int[]> cames = new ArrayList<>();
        Deque<State> past = new ArrayDeque<>();

        State copy() {
            State s = new State();
            for (Person p : people) s.people.add(p.copy());
            for (Thing t : things) s.things.add(t.copy());
            s.day = day;
            for (int[] n : notes) s.notes.add(n.clone());
            for (int[] c : cames) s.cames.add(c.clone());
            for (State p : past) s.past.addLast(p);
            return s;
        }

        State copyWithoutPast() {
            State s = copy();
            s.past.clear();
            return s;
        }

        int shows(int p, int sort, int d) {
            Person one = people.get(p);
            return PEOPLE[one.kind].shows(one.needs[sort], one.coat, sort, d);
        }

        /** To whom, by counting all and looking at all who count least. */
        int goes(int kind, int sort, int loser, int d) {
            Integer[] counted = new Integer[people.size()];
            int least = Integer.MAX_VALUE;
            for (int p = 0; p < counted.length; p++) {
                if (p == loser) continue;
                int next = sort == 3 ? 0 : sort + 1;
                int f = Math.abs(people.get(p).house - people.get(loser).house);
                counted[p] = THINGS[kind].counts(shows(p, sort, d), shows(p, next, d), f);
                if (counted[p] != null) least = Math.min(least, counted[p]);
            }
            List<Integer> first = new ArrayList<>();
            for (int p = 0; p < counted.length; p++) {
                if (counted[p] != null && counted[p] == least) first.add(p);
            }
            if (first.isEmpty()) return NONE;
            if (first.size() > 1 && THINGS[kind].boundary()) return NONE;
            return first.get(0);
        }

        int goes(int t, int loser, int d) {
            return goes(things.get(t).kind, things.get(t).sort, loser, d);
        }

        int ifLostNow(int t) {
            return goes(t, things.get(t).who, day);
        }

        void dayPasses() {
            for (int t = 0; t < things.size(); t++) {
                Thing one = things.get(t);
                if (one.how == 0) continue;
                int to = ifLostNow(t);
                if (to == NONE) {
                    one.how = 2;
                } else {
                    one.how = 0;
                    one.who = to;
                }
            }
            day++;
        }

        int asked(int t) {
            Thing one = things.get(t);
            return PEOPLE[people.get(one.who).kind].asks(shows(one.who, one.sort, day));
        }

        int atHome() {
            int n = 0;
            for (Thing t : things) if (t.how == 0 && t.who == t.owner) n++;
            return n;
        }
    }

    State now = new State();
    final State[] images = new State[2];
    final StringBuilder text = new StringBuilder();
    final int[] refused = new int[3];
    BigInteger above = BigInteger.ZERO, below = BigInteger.ONE;

    private int bad() { refused[0]++; return BAD; }
    private int no() { refused[1]++; return NO; }
    private int full() { refused[2]++; return FULL; }
    private static boolean in(int x, int low, int high) { return low <= x && x <= high; }
    private boolean p(int p) { return in(p, 0, now.people.size() - 1); }
    private boolean t(int t) { return in(t, 0, now.things.size() - 1); }

    private void remember() {
        now.past.addLast(now.copyWithoutPast());
        if (now.past.size() > 8) now.past.removeFirst();
    }

    // ---- the calls

    public int valley() {
        int n = now.people.size();
        now = new State();
        return n;
    }

    private static void addPerson(State s, int... told) {
        Person one = new Person();
        one.kind = told[0];
        one.house = told[1];
        one.needs = Arrays.copyOfRange(told, 2, 6);
        s.people.add(one);
        s.past.clear();
    }

    private static void addThing(State s, int kind, int sort, int owner) {
        Thing one = new Thing();
        one.kind = kind;
        one.sort = sort;
        one.owner = owner;
        one.who = owner;
        s.things.add(one);
        s.past.clear();
    }

    public int person(int kind, int house, int a, int b, int c, int d) {
        if (!in(kind, 0, 5) || !in(house, 0, 19)) return bad();
        for (int n : new int[] {a, b, c, d}) if (!in(n, 0, 9)) return bad();
        if (now.people.size() == 7) return full();
        addPerson(now, kind, house, a, b, c, d);
        return now.people.size() - 1;
    }

    public int thing(int kind, int sort, int owner) {
        if (!in(kind, 0, 5) || !in(sort, 0, 3) || !p(owner)) return bad();
        if (now.things.size() == 5) return full();
        addThing(now, kind, sort, owner);
        return now.things.size() - 1;
    }

    public int type(int c) {
        if (!in(c, 0, 127)) return bad();
        if (text.length() == 150) return full();
        text.append((char) c);
        return text.length();
    }

    public int clear() {
        int n = text.length();
        text.setLength(0);
        return n;
    }

    private static final Pattern TOKEN = Pattern.compile("[a-z]+|[0-9]+|;|[^ ]", Pattern.DOTALL);

    private static final class Fault extends Exception {
        final int at;
        Fault(int at) { this.at = at; }
    }

    private final class Tokens {
        final List<String> all = new ArrayList<>();
        final List<Integer> at = new ArrayList<>();
        int next = 0;
        Tokens() {
            Matcher m = TOKEN.matcher(text);
            while (m.find()) {
                all.add(m.group());
                at.add(m.start());
            }
        }
        boolean end() { return next == all.size(); }
        Fault fault() { return new Fault(end() ? text.length() : at.get(next)); }
        String take(String of) throws Fault {
            if (end() || !Arrays.asList(of.split(" ")).contains(all.get(next))) throw fault();
            return all.get(next++);
        }
        int number(int low, int high) throws Fault {
            if (end() || !all.get(next).matches("[0-9]{1,2}")) throw fault();
            int x = Integer.parseInt(all.get(next));
            if (!in(x, low, high)) throw fault();
            next++;
            return x;
        }
    }

    public int read() {
        Tokens in = new Tokens();
        State s = new State();
        int items = 1;
        try {
            in.take("valley");
            in.take(";");
            while (!in.end()) {
                String room = "coat lose days" + (s.people.size() < 7 ? " person" : "") + (s.things.size() < 5 ? " thing" : "");
                item(in, s, in.take(room));
                items++;
            }
        } catch (Fault f) {
            return -10 - f.at;
        }
        s.past.clear();
        now = s;
        return items;
    }

    private static void item(Tokens in, State s, String word) throws Fault {
        int people = s.people.size() - 1;
        switch (word) {
            case "person" -> {
                int[] told = {in.number(0, 5), in.number(0, 19), in.number(0, 9), in.number(0, 9), in.number(0, 9), in.number(0, 9)};
                in.take(";");
                addPerson(s, told);
            }
            case "coat" -> {
                int p = in.number(0, people);
                int c = in.number(0, 9);
                in.take(";");
                s.people.get(p).coat = c;
            }
            case "thing" -> {
                int kind = in.number(0, 5);
                int sort = in.number(0, 3);
                int p = in.number(0, people);
                in.take(";");
                addThing(s, kind, sort, p);
            }
            case "lose" -> {
                int t = in.number(0, s.things.size() - 1);
                if (s.things.get(t).how != 0) {
                    in.next--;
                    throw in.fault();
                }
                in.take(";");
                s.things.get(t).how = 1;
            }
            default -> {
                int n = in.number(1, 99);
                in.take(";");
                while (n-- > 0) s.dayPasses();
            }
        }
    }

    public int lose(int t) {
        if (!t(t)) return bad();
        if (now.things.get(t).how != 0) return no();
        remember();
        now.things.get(t).how = 1;
        return now.things.get(t).who;
    }

    public int back(int t) {
        if (!t(t)) return bad();
        Thing one = now.things.get(t);
        if (one.how != 0 || one.who == one.owner) return no();
        int asked = now.asked(t);
        remember();
        one.who = one.owner;
        return asked;
    }

    public int coat(int p, int c) {
        if (!p(p) || !in(c, 0, 9)) return bad();
        remember();
        int was = now.people.get(p).coat;
        now.people.get(p).coat = c;
        return was;
    }

    public int day(int n) {
        if (!in(n, 1, 99)) return bad();
        remember();
        for (int i = 0; i < n; i++) if (now.day < 9999) now.dayPasses();
        int lie = 0;
        for (Thing t : now.things) if (t.how == 2) lie++;
        return lie;
    }

    public int undo() {
        if (now.past.isEmpty()) return no();
        State was = now.past.removeLast();
        now.day = was.day;
        for (int p = 0; p < now.people.size(); p++) now.people.get(p).coat = was.people.get(p).coat;
        for (int t = 0; t < now.things.size(); t++) {
            now.things.get(t).who = was.things.get(t).who;
            now.things.get(t).how = was.things.get(t).how;
        }
        return now.day;
    }

    public int of(int p, int what) {
        if (!p(p) || !in(what, 0, 7)) return bad();
        Person one = now.people.get(p);
        int has = 0;
        for (Thing t : now.things) if (t.who == p && t.how == 0) has++;
        int[] all = {one.kind, one.house, one.coat, has, one.needs[0], one.needs[1], one.needs[2], one.needs[3]};
        return all[what];
    }

    public int about(int t, int what) {
        if (!t(t) || !in(what, 0, 4)) return bad();
        Thing one = now.things.get(t);
        int[] all = {one.kind, one.sort, one.owner, one.who, one.how};
        return all[what];
    }

    public int shows(int p, int sort) {
        if (!p(p) || !in(sort, 0, 3)) return bad();
        return now.shows(p, sort, now.day);
    }

    public int comes(int t) {
        return t(t) ? now.ifLostNow(t) : bad();
    }

    public int chain(int t, int m) {
        if (!t(t) || !in(m, 0, 50)) return bad();
        int who = now.things.get(t).who;
        while (m-- > 0 && who != NONE) who = now.goes(t, who, now.day);
        return who;
    }

    public int ring(int t, int what) {
        if (!t(t) || !in(what, 0, 1)) return bad();
        List<Integer> had = new ArrayList<>(new LinkedHashSet<>(List.of(now.things.get(t).who)));
        while (true) {
            int to = now.goes(t, had.get(had.size() - 1), now.day);
            if (to == NONE) return what == 0 ? had.size() : 0;
            if (had.contains(to)) return what == 0 ? had.size() : had.size() - had.indexOf(to);
            had.add(to);
        }
    }

    /** The fewest losses by which q has it behind exactly so many days more; null: by none. */
    private Integer losses(Map<Integer, Integer> seen, int t, int who, boolean has, int passed, int left, int q) {
        if (left == 0) return has && who == q ? 0 : null;
        int key = (left * 10 + who) * 2 + (has ? 1 : 0);
        if (seen.containsKey(key)) return seen.get(key);
        int to = now.goes(t, who, now.day + passed);
        Integer best = to == NONE
            ? losses(seen, t, who, false, passed + 1, left - 1, q)
            : losses(seen, t, to, true, passed + 1, left - 1, q);
        if (has) {
            if (best != null) best = best + 1;
            Integer kept = losses(seen, t, who, true, passed + 1, left - 1, q);
            if (best == null || (kept != null && kept < best)) best = kept;
        }
        seen.put(key, best);
        return best;
    }

    public int send(int t, int q, int what) {
        if (!t(t) || !p(q) || !in(what, 0, 1)) return bad();
        Thing one = now.things.get(t);
        for (int days = 0; days <= 30; days++) {
            Integer n = losses(new HashMap<>(), t, one.who, one.how == 0, 0, days, q);
            if (n != null) return what == 0 ? days : n;
        }
        return NONE;
    }

    public int wears(int p, int t, int what) {
        if (!p(p) || !t(t) || !in(what, 0, 1)) return bad();
        if (now.things.get(t).who == p) return NONE;
        for (int c = 0; c <= 9; c++) {
            State s = now.copy();
            s.people.get(p).coat = c;
            if ((s.ifLostNow(t) == p ? 1 : 0) == what) return c;
        }
        return NONE;
    }

    private List<Integer> asked() {
        List<Integer> all = new ArrayList<>();
        for (int t = 0; t < now.things.size(); t++) {
            Thing one = now.things.get(t);
            if (one.how == 0 && one.who != one.owner) all.add(now.asked(t));
        }
        return all;
    }

    public int costs() {
        return asked().stream().mapToInt(i -> i).sum();
    }

    public int few(int x) {
        if (!in(x, 0, 200)) return bad();
        List<Integer> all = asked();
        int best = 0;
        for (int bits = 0; bits < 1 << all.size(); bits++) {
            int sum = 0;
            for (int i = 0; i < all.size(); i++) if ((bits >> i & 1) == 1) sum += all.get(i);
            if (sum <= x) best = Math.max(best, Integer.bitCount(bits));
        }
        return best;
    }

    public int loser(int t, int q) {
        if (!t(t) || !p(q)) return bad();
        int bits = 0;
        for (int p = 0; p < now.people.size(); p++) if (now.goes(t, p, now.day) == q) bits += 1 << p;
        return bits;
    }

    public int note(int p, int n, int c, int s, int d, int x) {
        if (!p(p) || !in(n, 0, 9) || !in(c, 0, 9) || !in(s, 0, 3) || !in(d, 0, 99) || !in(x, 0, 30)) return bad();
        if (now.notes.size() == 6) return full();
        now.notes.add(new int[] {p, n, c, s, d, x});
        return now.notes.size();
    }

    public int came(int t, int p, int d, int q) {
        if (!t(t) || !p(p) || !in(d, 0, 99) || !(q == NONE || p(q)) || p == q) return bad();
        if (now.cames.size() == 6) return full();
        now.cames.add(new int[] {t, p, d, q});
        return now.cames.size();
    }

    public int forget(int what) {
        if (!in(what, 0, 1)) return bad();
        List<int[]> list = what == 0 ? now.notes : now.cames;
        int n = list.size();
        list.clear();
        return n;
    }

    private List<Integer> peopleKinds(int p) {
        List<Integer> fit = new ArrayList<>();
        for (int k = 0; k < 6; k++) {
            int kind = k;
            if (now.notes.stream().allMatch(n -> n[0] != p || PEOPLE[kind].shows(n[1], n[2], n[3], n[4]) == n[5])) fit.add(k);
        }
        return fit;
    }

    private List<Integer> thingKinds(int t) {
        List<Integer> fit = new ArrayList<>();
        for (int k = 0; k < 6; k++) {
            int kind = k;
            if (now.cames.stream().allMatch(c -> c[0] != t || now.goes(kind, now.things.get(t).sort, c[1], c[2]) == c[3])) fit.add(k);
        }
        return fit;
    }

    private static int bits(List<Integer> kinds) {
        return kinds.stream().mapToInt(k -> 1 << k).sum();
    }

    private static int most(List<Integer> answers) {
        Map<Integer, Integer> groups = new HashMap<>();
        for (int a : answers) groups.merge(a, 1, Integer::sum);
        return groups.values().stream().mapToInt(i -> i).max().orElse(0);
    }

    public int is(int p) {
        return p(p) ? bits(peopleKinds(p)) : bad();
    }

    public int watch(int p) {
        if (!p(p)) return bad();
        List<Integer> fit = peopleKinds(p);
        if (fit.isEmpty()) return NONE;
        int best = NONE;
        int least = 99;
        for (int s = 0; s < 4; s++) {
            for (int d = 0; d < 10; d++) {
                List<Integer> answers = new ArrayList<>();
                for (int k : fit) answers.add(PEOPLE[k].shows(now.people.get(p).needs[s], now.people.get(p).coat, s, d));
                if (most(answers) < least) {
                    least = most(answers);
                    best = 10 * s + d;
                }
            }
        }
        return best;
    }

    public int kinds(int t) {
        return t(t) ? bits(thingKinds(t)) : bad();
    }

    public int by(int t) {
        if (!t(t)) return bad();
        List<Integer> fit = thingKinds(t);
        if (fit.isEmpty()) return NONE;
        int best = NONE;
        int least = 99;
        for (int p = 0; p < now.people.size(); p++) {
            List<Integer> answers = new ArrayList<>();
            for (int k : fit) answers.add(now.goes(k, now.things.get(t).sort, p, now.day));
            if (most(answers) < least) {
                least = most(answers);
                best = p;
            }
        }
        return best;
    }

    private int gets(int t, int a, int b, int i, int j, int who) {
        State s = now.copy();
        s.people.get(a).coat = i;
        s.people.get(b).coat = j;
        return -(who == a ? i : j) - (s.ifLostNow(t) == who ? 6 : 0);
    }

    public int coats(int t, int a, int b, int k) {
        if (!t(t) || !p(a) || !p(b) || a == b || k < -1) {
            bad();
            return -10;
        }
        List<Integer> resting = new ArrayList<>();
        for (int i = 0; i < 6; i++) {
            for (int j = 0; j < 6; j++) {
                boolean rests = true;
                for (int o = 0; o < 6; o++) {
                    if (gets(t, a, b, o, j, a) > gets(t, a, b, i, j, a)) rests = false;
                    if (gets(t, a, b, i, o, b) > gets(t, a, b, i, j, b)) rests = false;
                }
                if (rests) resting.add(6 * i + j);
            }
        }
        if (k == -1) return resting.size();
        return k < resting.size() ? resting.get(k) : -5;
    }

    private BigInteger tens(int t, int who, boolean has, int passed, int left, int q, int c) {
        if (left == 0) return has && who == q ? BigInteger.ONE : BigInteger.ZERO;
        int to = now.goes(t, who, now.day + passed);
        BigInteger lost = to == NONE
            ? tens(t, who, false, passed + 1, left - 1, q, c)
            : tens(t, to, true, passed + 1, left - 1, q, c);
        if (!has) return lost.multiply(BigInteger.TEN);
        BigInteger kept = tens(t, who, true, passed + 1, left - 1, q, c);
        return lost.multiply(BigInteger.valueOf(c)).add(kept.multiply(BigInteger.valueOf(10 - c)));
    }

    public int odds(int t, int q, int m, int c) {
        if (!t(t) || !p(q) || !in(m, 0, 7) || !in(c, 0, 10)) return bad();
        above = tens(t, now.things.get(t).who, now.things.get(t).how == 0, 0, m, q, c);
        below = BigInteger.TEN.pow(m);
        BigInteger g = above.gcd(below);
        above = above.divide(g);
        below = below.divide(g);
        return 1;
    }

    public int years(int seed, int n) {
        if (!in(seed, 0, 999999) || !in(n, 0, 60)) return bad();
        State s = now.copy();
        BigInteger x = BigInteger.valueOf(seed);
        for (int i = 0; i < n; i++) {
            x = x.multiply(BigInteger.valueOf(1103515245)).add(BigInteger.valueOf(12345)).mod(BigInteger.ONE.shiftLeft(31));
            int t = x.shiftRight(16).mod(BigInteger.valueOf(5)).intValue();
            if (t < s.things.size() && s.things.get(t).how == 0) s.things.get(t).how = 1;
            s.dayPasses();
        }
        return s.atHome();
    }

    public long part(int what) {
        if (!in(what, 0, 1)) return bad();
        return what == 0 ? above.longValueExact() : below.longValueExact();
    }

    public int image(int i) {
        if (!in(i, 0, 1)) return bad();
        images[i] = now.copy();
        return 1;
    }

    public int from(int i) {
        if (!in(i, 0, 1)) return bad();
        if (images[i] == null) return no();
        now = images[i].copy();
        return 1;
    }

    public int status(int what) {
        if (in(what, 0, 2)) return refused[what];
        bad();
        return -1;
    }

    private int[] counts() {
        int lost = 0;
        for (Thing t : now.things) if (t.how > 0) lost++;
        return new int[] {now.people.size(), now.things.size(), now.day, lost, now.atHome(), now.notes.size(),
            now.cames.size(), now.past.size(), text.length()};
    }

    public int count(int what) {
        return in(what, 0, 8) ? counts()[what] : bad();
    }

    public long digest() {
        List<Long> all = new ArrayList<>();
        for (int c : counts()) all.add((long) c);
        for (Person p : now.people) {
            for (int v : new int[] {p.kind, p.house, p.coat, p.needs[0], p.needs[1], p.needs[2], p.needs[3]}) all.add((long) v);
        }
        for (Thing t : now.things) {
            for (int v : new int[] {t.kind, t.sort, t.owner, t.who, t.how}) all.add((long) v);
        }
        for (int[] n : now.notes) for (int v : n) all.add((long) v);
        for (int[] c : now.cames) for (int v : c) all.add((long) v);
        all.add(above.longValueExact());
        all.add(below.longValueExact());
        long h = 1483;
        for (long v : all) h = h * 31 + v;
        return h;
    }
}
