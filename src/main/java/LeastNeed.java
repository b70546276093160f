/**
 * A valley in which whatever is lost comes to whoever needs it least.
 *
 * The words of the document are kept as names. All rows are made in the
 * constructor and used again, since nothing a run makes is ever given back.
 */
public final class LeastNeed {
    public static final int NONE = -1, BAD = -2, NO = -3, FULL = -4;

    private static final int MOST_PEOPLE = 7, MOST_THINGS = 5, MOST_ROWS = 6, MOST_PAST = 8;
    private static final int MOST_TEXT = 150, LAST_DAY = 9999;
    private static final int PEOPLE_KINDS = 6, THING_KINDS = 6, SORTS = 4, HOUSES = 20, NEEDS = 10, COATS = 10;
    private static final int HAD = 0, LOST = 1, BOUNDARY = 2;
    private static final int NOTE_CELLS = 6, CAME_CELLS = 4, PAST_CELLS = 1 + MOST_PEOPLE + 2 * MOST_THINGS;
    private static final int WORN = 6;

    private final Valley now;
    // Where a question tries coats and days, so that the valley itself stays as it is.
    private final Valley trial;
    private final Valley[] images;
    private final boolean[] imageKept;
    private final Reader reader;
    private final Journey journey;
    private final int[] refused;
    private final int[] answers;
    private final int[] order;
    private final int[] goals;
    private long above;
    private long below;

    public LeastNeed() {
        now = new Valley();
        trial = new Valley();
        images = new Valley[2];
        images[0] = new Valley();
        images[1] = new Valley();
        imageKept = new boolean[2];
        reader = new Reader();
        journey = new Journey();
        refused = new int[3];
        answers = new int[6];
        order = new int[MOST_PEOPLE + 1];
        goals = new int[WORN * WORN];
        above = 0;
        below = 1;
    }

    // ---- a valley

    public int valley() {
        int had = now.people;
        now.empty();
        return had;
    }

    public int person(int kind, int house, int a, int b, int c, int d) {
        boolean told = upTo(kind, PEOPLE_KINDS) && upTo(house, HOUSES);
        if (!told || !upTo(a, NEEDS) || !upTo(b, NEEDS) || !upTo(c, NEEDS) || !upTo(d, NEEDS)) return refusedAsBad();
        if (now.people >= MOST_PEOPLE) return refusedAsFull();
        now.addPerson(kind, house, a, b, c, d);
        return now.people - 1;
    }

    public int thing(int kind, int sort, int owner) {
        if (!upTo(kind, THING_KINDS) || !upTo(sort, SORTS) || !isPerson(owner)) return refusedAsBad();
        if (now.things >= MOST_THINGS) return refusedAsFull();
        now.addThing(kind, sort, owner);
        return now.things - 1;
    }

    public int type(int c) {
        if (!upTo(c, 128)) return refusedAsBad();
        if (reader.length >= MOST_TEXT) return refusedAsFull();
        reader.put((char) c);
        return reader.length;
    }

    public int clear() {
        int had = reader.length;
        reader.length = 0;
        return had;
    }

    public int read() {
        int items = reader.tell(trial);
        if (items >= 0) now.copyOf(trial);
        return items;
    }

    // ---- days

    public int lose(int t) {
        if (!isThing(t)) return refusedAsBad();
        if (now.place[t] != HAD) return refusedAsNo();
        now.keepPast();
        now.place[t] = LOST;
        return now.holder[t];
    }

    public int back(int t) {
        if (!isThing(t)) return refusedAsBad();
        if (!now.isAway(t)) return refusedAsNo();
        int asked = now.askedFor(t);
        now.keepPast();
        now.holder[t] = now.owner[t];
        return asked;
    }

    public int coat(int p, int c) {
        if (!isPerson(p) || !upTo(c, COATS)) return refusedAsBad();
        now.keepPast();
        int was = now.worn[p];
        now.worn[p] = c;
        return was;
    }

    public int day(int n) {
        if (n < 1 || n > 99) return refusedAsBad();
        now.keepPast();
        for (int i = 0; i < n && now.today < LAST_DAY; i++) {
            now.dayGoesBy();
        }
        return now.howManyLie(BOUNDARY);
    }

    public int undo() {
        if (now.past.used == 0) return refusedAsNo();
        now.takePast();
        return now.today;
    }

    public int of(int p, int what) {
        if (!isPerson(p) || !upTo(what, 4 + SORTS)) return refusedAsBad();
        switch (what) {
            case 0: return now.kind[p];
            case 1: return now.house[p];
            case 2: return now.worn[p];
            case 3: return now.howManyHas(p);
            default: return now.need[SORTS * p + what - 4];
        }
    }

    public int about(int t, int what) {
        if (!isThing(t) || !upTo(what, 5)) return refusedAsBad();
        switch (what) {
            case 0: return now.thingKind[t];
            case 1: return now.sort[t];
            case 2: return now.owner[t];
            case 3: return now.holder[t];
            default: return now.place[t];
        }
    }

    // ---- to whom it comes

    public int shows(int p, int sort) {
        if (!isPerson(p) || !upTo(sort, SORTS)) return refusedAsBad();
        return now.shown(p, sort, now.today);
    }

    public int comes(int t) {
        if (!isThing(t)) return refusedAsBad();
        return now.nextOf(t, now.holder[t]);
    }

    public int chain(int t, int m) {
        if (!isThing(t) || !upTo(m, 51)) return refusedAsBad();
        int who = now.holder[t];
        for (int i = 0; i < m && who != NONE; i++) {
            who = now.nextOf(t, who);
        }
        return who;
    }

    public int ring(int t, int what) {
        if (!isThing(t) || !upTo(what, 2)) return refusedAsBad();
        int had = 0;
        int who = now.holder[t];
        int first = NONE;
        while (had < MOST_PEOPLE && who != NONE && first == NONE) {
            order[had] = who;
            had++;
            who = now.nextOf(t, who);
            first = placeIn(order, had, who);
        }
        if (what == 0) return had;
        return first == NONE ? 0 : had - first;
    }

    public int send(int t, int q, int what) {
        if (!isThing(t) || !isPerson(q) || !upTo(what, 2)) return refusedAsBad();
        int days = journey.fewestDays(now, t, q);
        if (days == NONE || what == 0) return days;
        return journey.losses;
    }

    public int wears(int p, int t, int what) {
        if (!isPerson(p) || !isThing(t) || !upTo(what, 2)) return refusedAsBad();
        if (now.holder[t] == p) return NONE;
        trial.copyOf(now);
        for (int c = 0; c < COATS; c++) {
            trial.worn[p] = c;
            boolean gets = trial.nextOf(t, trial.holder[t]) == p;
            if (gets == (what == 1)) return c;
        }
        return NONE;
    }

    public int costs() {
        int sum = 0;
        for (int t = 0; t < now.things; t++) {
            if (now.isAway(t)) sum += now.askedFor(t);
        }
        return sum;
    }

    public int few(int x) {
        if (!upTo(x, 201)) return refusedAsBad();
        int away = sortAsked();
        int left = x;
        int had = 0;
        while (had < away && order[had] <= left) {
            left -= order[had];
            had++;
        }
        return had;
    }

    public int loser(int t, int q) {
        if (!isThing(t) || !isPerson(q)) return refusedAsBad();
        int bits = 0;
        for (int p = 0; p < now.people; p++) {
            if (now.nextOf(t, p) == q) bits |= 1 << p;
        }
        return bits;
    }

    // ---- what they are

    public int note(int p, int n, int c, int s, int d, int x) {
        boolean told = isPerson(p) && upTo(n, NEEDS) && upTo(c, COATS);
        if (!told || !upTo(s, SORTS) || !upTo(d, 100) || !upTo(x, 31)) return refusedAsBad();
        if (now.notes.isFull()) return refusedAsFull();
        now.notes.begin();
        now.notes.put(0, p);
        now.notes.put(1, n);
        now.notes.put(2, c);
        now.notes.put(3, s);
        now.notes.put(4, d);
        now.notes.put(5, x);
        return now.notes.used;
    }

    public int came(int t, int p, int d, int q) {
        boolean told = isThing(t) && isPerson(p) && upTo(d, 100);
        if (!told || p == q || (q != NONE && !isPerson(q))) return refusedAsBad();
        if (now.cames.isFull()) return refusedAsFull();
        now.cames.begin();
        now.cames.put(0, t);
        now.cames.put(1, p);
        now.cames.put(2, d);
        now.cames.put(3, q);
        return now.cames.used;
    }

    public int forget(int what) {
        if (!upTo(what, 2)) return refusedAsBad();
        Rows rows = what == 0 ? now.notes : now.cames;
        int had = rows.used;
        rows.used = 0;
        return had;
    }

    public int is(int p) {
        if (!isPerson(p)) return refusedAsBad();
        return now.kindsByNotes(p);
    }

    public int watch(int p) {
        if (!isPerson(p)) return refusedAsBad();
        int bits = now.kindsByNotes(p);
        int best = NONE;
        int least = PEOPLE_KINDS + 1;
        for (int look = 0; look < 10 * SORTS && bits != 0; look++) {
            int sort = look / 10;
            for (int k = 0; k < PEOPLE_KINDS; k++) {
                answers[k] = PeopleKinds.shown(k, now.need[SORTS * p + sort], now.worn[p], sort, look % 10);
            }
            int most = mostAlike(answers, bits);
            if (most < least) {
                least = most;
                best = look;
            }
        }
        return best;
    }

    public int kinds(int t) {
        if (!isThing(t)) return refusedAsBad();
        return now.kindsByComings(t);
    }

    public int by(int t) {
        if (!isThing(t)) return refusedAsBad();
        int bits = now.kindsByComings(t);
        int best = NONE;
        int least = THING_KINDS + 1;
        for (int p = 0; p < now.people && bits != 0; p++) {
            for (int k = 0; k < THING_KINDS; k++) {
                answers[k] = now.goesTo(k, now.sort[t], p, now.today);
            }
            int most = mostAlike(answers, bits);
            if (most < least) {
                least = most;
                best = p;
            }
        }
        return best;
    }

    public int coats(int t, int a, int b, int k) {
        if (!isThing(t) || !isPerson(a) || !isPerson(b) || a == b || k < NONE) {
            refusedAsBad();
            return -10;
        }
        seeWhoGetsIt(t, a, b);
        int found = 0;
        for (int pair = 0; pair < WORN * WORN; pair++) {
            if (!rests(pair, a, b)) continue;
            if (found == k) return pair;
            found++;
        }
        return k == NONE ? found : -5;
    }

    public int odds(int t, int q, int m, int c) {
        if (!isThing(t) || !isPerson(q) || !upTo(m, 8) || !upTo(c, 11)) return refusedAsBad();
        long chance = journey.chanceOfTens(now, t, q, m, c);
        long whole = 1;
        for (int i = 0; i < m; i++) {
            whole *= 10;
        }
        long shared = commonDivisor(whole, chance);
        above = chance / shared;
        below = whole / shared;
        return 1;
    }

    public int years(int seed, int n) {
        if (!upTo(seed, 1000000) || !upTo(n, 61)) return refusedAsBad();
        trial.copyOf(now);
        long x = seed;
        for (int i = 0; i < n; i++) {
            x = (x * 1103515245L + 12345L) % 2147483648L;
            int t = (int) (x / 65536L % 5L);
            if (t < trial.things && trial.place[t] == HAD) trial.place[t] = LOST;
            trial.dayGoesBy();
        }
        return trial.howManyAtHome();
    }

    // ---- what there is

    public long part(int what) {
        if (!upTo(what, 2)) return refusedAsBad();
        return what == 0 ? above : below;
    }

    public int image(int i) {
        if (!upTo(i, 2)) return refusedAsBad();
        images[i].copyOf(now);
        imageKept[i] = true;
        return 1;
    }

    public int from(int i) {
        if (!upTo(i, 2)) return refusedAsBad();
        if (!imageKept[i]) return refusedAsNo();
        now.copyOf(images[i]);
        return 1;
    }

    public int status(int what) {
        if (!upTo(what, 3)) {
            refusedAsBad();
            return -1;
        }
        return refused[what];
    }

    public int count(int what) {
        if (!upTo(what, 9)) return refusedAsBad();
        return howMany(what);
    }

    public long digest() {
        long h = 1483;
        for (int what = 0; what < 9; what++) {
            h = 31 * h + howMany(what);
        }
        h = now.mixPeople(h);
        h = now.mixThings(h);
        h = now.notes.mix(h);
        h = now.cames.mix(h);
        h = 31 * h + above;
        return 31 * h + below;
    }

    // ---- what the calls share

    private int refusedAsBad() {
        refused[0]++;
        return BAD;
    }

    private int refusedAsNo() {
        refused[1]++;
        return NO;
    }

    private int refusedAsFull() {
        refused[2]++;
        return FULL;
    }

    private static boolean upTo(int x, int beyond) {
        return x >= 0 && x < beyond;
    }

    private boolean isPerson(int p) {
        return upTo(p, now.people);
    }

    private boolean isThing(int t) {
        return upTo(t, now.things);
    }

    private int howMany(int what) {
        switch (what) {
            case 0: return now.people;
            case 1: return now.things;
            case 2: return now.today;
            case 3: return now.howManyLie(LOST) + now.howManyLie(BOUNDARY);
            case 4: return now.howManyAtHome();
            case 5: return now.notes.used;
            case 6: return now.cames.used;
            case 7: return now.past.used;
            default: return reader.length;
        }
    }

    private static int placeIn(int[] row, int used, int x) {
        for (int i = 0; i < used && i < row.length; i++) {
            if (row[i] == x) return i;
        }
        return NONE;
    }

    /** Of the kinds told by bits, how many at the most answer the same. */
    private static int mostAlike(int[] row, int bits) {
        int most = 0;
        for (int i = 0; i < row.length; i++) {
            int alike = 0;
            for (int j = 0; j < row.length; j++) {
                if ((bits >> j & 1) == 1 && row[j] == row[i]) alike++;
            }
            if ((bits >> i & 1) == 1 && alike > most) most = alike;
        }
        return most;
    }

    /** Puts what is asked for the things that are away into the order row, the cheapest first. */
    private int sortAsked() {
        int away = 0;
        for (int t = 0; t < now.things; t++) {
            if (!now.isAway(t)) continue;
            int asked = now.askedFor(t);
            int i = away;
            while (i > 0 && order[i - 1] > asked) {
                order[i] = order[i - 1];
                i--;
            }
            order[i] = asked;
            away++;
        }
        return away;
    }

    private void seeWhoGetsIt(int t, int a, int b) {
        trial.copyOf(now);
        for (int pair = 0; pair < WORN * WORN; pair++) {
            trial.worn[a] = pair / WORN;
            trial.worn[b] = pair % WORN;
            goals[pair] = trial.nextOf(t, trial.holder[t]);
        }
    }

    private boolean rests(int pair, int a, int b) {
        int i = pair / WORN;
        int j = pair % WORN;
        int payA = pay(pair, a, i);
        int payB = pay(pair, b, j);
        for (int other = 0; other < WORN; other++) {
            if (pay(WORN * other + j, a, other) > payA) return false;
            if (pay(WORN * i + other, b, other) > payB) return false;
        }
        return true;
    }

    private int pay(int pair, int who, int coat) {
        return goals[pair] == who ? -coat - 6 : -coat;
    }

    /** At least 1, since a is. */
    private static long commonDivisor(long a, long b) {
        long x = a;
        long y = b;
        for (int i = 0; i < 200 && y != 0; i++) {
            long left = x % y;
            x = y;
            y = left;
        }
        return x < 1 ? 1 : x;
    }

    /** What people of each kind show and ask. */
    private static final class PeopleKinds {
        static final int PLAIN = 0, RICH = 1, PROUD = 2, MOODY = 3, MILLER = 4, NUN = 5;

        private PeopleKinds() {
        }

        static int shown(int kind, int need, int coat, int sort, int day) {
            int plain = need + coat;
            int rich = plain / 2;
            int proud = need;
            switch (kind) {
                case RICH: return rich;
                case PROUD: return proud;
                case MOODY: return day % 2 == 1 ? plain + 2 : plain;
                case MILLER: return sort == 2 ? 0 : rich;
                case NUN: return sort == 3 ? proud : 0;
                default: return plain;
            }
        }

        static int asked(int kind, int shown) {
            int plain = Math.max(0, 9 - shown);
            int rich = 2 * plain;
            switch (kind) {
                case RICH: return rich;
                case MILLER: return rich + 3;
                case NUN: return 0;
                default: return plain;
            }
        }
    }

    /** How things of each kind count people. */
    private static final class ThingKinds {
        static final int PLAIN = 0, PAIR = 1, ALIVE = 2, USELESS = 3, TWIN = 4, SHY = 5;

        private ThingKinds() {
        }

        /** NONE: it never comes to that one. */
        static int counted(int kind, int x, int y, int far) {
            boolean tooFar = far > 6;
            switch (kind) {
                case PAIR:
                case TWIN: return x + y;
                case ALIVE: return tooFar ? NONE : x;
                case USELESS: return 40 - x;
                case SHY: return tooFar ? NONE : x + far;
                default: return x;
            }
        }

        static boolean likeOnesLeaveIt(int kind) {
            return kind != TWIN;
        }
    }

    /** Rows of cells, all of one width, as they come. */
    private static final class Rows {
        final int width;
        final int most;
        final int[] cells;
        int used;

        Rows(int width, int most) {
            this.width = width;
            this.most = most;
            cells = new int[width * most];
            used = 0;
        }

        boolean isFull() {
            return used >= most;
        }

        /** A new last row; the caller has seen that there is room. */
        void begin() {
            if (used < most) used++;
        }

        void put(int column, int x) {
            int at = (used - 1) * width + column;
            if (at >= 0 && at < cells.length) cells[at] = x;
        }

        int cell(int row, int column) {
            int at = row * width + column;
            return at >= 0 && at < cells.length ? cells[at] : 0;
        }

        void dropFirst() {
            if (used == 0) return;
            System.arraycopy(cells, width, cells, 0, cells.length - width);
            used--;
        }

        void copyOf(Rows other) {
            used = other.used;
            copyRow(other.cells, cells);
        }

        long mix(long start) {
            long h = start;
            for (int i = 0; i < used * width && i < cells.length; i++) {
                h = 31 * h + cells[i];
            }
            return h;
        }
    }

    private static void copyRow(int[] source, int[] goal) {
        System.arraycopy(source, 0, goal, 0, Math.min(source.length, goal.length));
    }

    /** All that an image keeps: people, things, the day, what was told, what may be undone. */
    private static final class Valley {
        final int[] kind = new int[MOST_PEOPLE];
        final int[] house = new int[MOST_PEOPLE];
        final int[] worn = new int[MOST_PEOPLE];
        final int[] need = new int[MOST_PEOPLE * SORTS];
        final int[] thingKind = new int[MOST_THINGS];
        final int[] sort = new int[MOST_THINGS];
        final int[] owner = new int[MOST_THINGS];
        // Who has it, or who lost it: the place tells which.
        final int[] holder = new int[MOST_THINGS];
        final int[] place = new int[MOST_THINGS];
        final Rows notes = new Rows(NOTE_CELLS, MOST_ROWS);
        final Rows cames = new Rows(CAME_CELLS, MOST_ROWS);
        final Rows past = new Rows(PAST_CELLS, MOST_PAST);
        int people;
        int things;
        int today;

        void empty() {
            people = 0;
            things = 0;
            today = 0;
            notes.used = 0;
            cames.used = 0;
            past.used = 0;
        }

        void copyOf(Valley other) {
            copyRow(other.kind, kind);
            copyRow(other.house, house);
            copyRow(other.worn, worn);
            copyRow(other.need, need);
            copyRow(other.thingKind, thingKind);
            copyRow(other.sort, sort);
            copyRow(other.owner, owner);
            copyRow(other.holder, holder);
            copyRow(other.place, place);
            notes.copyOf(other.notes);
            cames.copyOf(other.cames);
            past.copyOf(other.past);
            people = other.people;
            things = other.things;
            today = other.today;
        }

        void addPerson(int itsKind, int itsHouse, int a, int b, int c, int d) {
            if (people >= MOST_PEOPLE) return;
            kind[people] = itsKind;
            house[people] = itsHouse;
            worn[people] = 0;
            need[SORTS * people] = a;
            need[SORTS * people + 1] = b;
            need[SORTS * people + 2] = c;
            need[SORTS * people + 3] = d;
            people++;
            past.used = 0;
        }

        void addThing(int itsKind, int itsSort, int itsOwner) {
            if (things >= MOST_THINGS) return;
            thingKind[things] = itsKind;
            sort[things] = itsSort;
            owner[things] = itsOwner;
            holder[things] = itsOwner;
            place[things] = HAD;
            things++;
            past.used = 0;
        }

        void keepPast() {
            if (past.isFull()) past.dropFirst();
            past.begin();
            past.put(0, today);
            for (int p = 0; p < MOST_PEOPLE; p++) {
                past.put(1 + p, worn[p]);
            }
            for (int t = 0; t < MOST_THINGS; t++) {
                past.put(1 + MOST_PEOPLE + 2 * t, holder[t]);
                past.put(2 + MOST_PEOPLE + 2 * t, place[t]);
            }
        }

        void takePast() {
            if (past.used == 0) return;
            int last = past.used - 1;
            today = past.cell(last, 0);
            for (int p = 0; p < MOST_PEOPLE; p++) {
                worn[p] = past.cell(last, 1 + p);
            }
            for (int t = 0; t < MOST_THINGS; t++) {
                holder[t] = past.cell(last, 1 + MOST_PEOPLE + 2 * t);
                place[t] = past.cell(last, 2 + MOST_PEOPLE + 2 * t);
            }
            past.used = last;
        }

        void dayGoesBy() {
            for (int t = 0; t < things; t++) {
                if (place[t] == HAD) continue;
                int who = goesTo(thingKind[t], sort[t], holder[t], today);
                place[t] = who == NONE ? BOUNDARY : HAD;
                if (who != NONE) holder[t] = who;
            }
            today++;
        }

        int shown(int p, int itsSort, int day) {
            return PeopleKinds.shown(kind[p], need[SORTS * p + itsSort], worn[p], itsSort, day);
        }

        /** How it counts p, when that loser lost it; NONE: it never comes to p. */
        private int counted(int itsKind, int itsSort, int loser, int p, int day) {
            if (p == loser) return NONE;
            int nextSort = (itsSort + 1) % SORTS;
            int x = PeopleKinds.shown(kind[p], need[SORTS * p + itsSort], worn[p], itsSort, day);
            int y = PeopleKinds.shown(kind[p], need[SORTS * p + nextSort], worn[p], nextSort, day);
            return ThingKinds.counted(itsKind, x, y, Math.abs(house[p] - house[loser]));
        }

        /** To whom a thing of that kind and sort comes; NONE: it lies on the boundary. */
        int goesTo(int itsKind, int itsSort, int loser, int day) {
            int best = NONE;
            int least = 0;
            boolean like = false;
            for (int p = 0; p < people; p++) {
                int counts = counted(itsKind, itsSort, loser, p, day);
                if (counts == NONE) continue;
                if (best == NONE || counts < least) {
                    best = p;
                    least = counts;
                    like = false;
                } else if (counts == least) {
                    like = true;
                }
            }
            return like && ThingKinds.likeOnesLeaveIt(itsKind) ? NONE : best;
        }

        int nextOf(int t, int loser) {
            return goesTo(thingKind[t], sort[t], loser, today);
        }

        boolean isAway(int t) {
            return place[t] == HAD && holder[t] != owner[t];
        }

        int askedFor(int t) {
            return PeopleKinds.asked(kind[holder[t]], shown(holder[t], sort[t], today));
        }

        int howManyLie(int where) {
            int n = 0;
            for (int t = 0; t < things; t++) {
                if (place[t] == where) n++;
            }
            return n;
        }

        int howManyHas(int p) {
            int n = 0;
            for (int t = 0; t < things; t++) {
                if (place[t] == HAD && holder[t] == p) n++;
            }
            return n;
        }

        int howManyAtHome() {
            int n = 0;
            for (int t = 0; t < things; t++) {
                if (place[t] == HAD && holder[t] == owner[t]) n++;
            }
            return n;
        }

        int kindsByNotes(int p) {
            int bits = 0;
            for (int k = 0; k < PEOPLE_KINDS; k++) {
                if (notesAreSo(p, k)) bits |= 1 << k;
            }
            return bits;
        }

        private boolean notesAreSo(int p, int itsKind) {
            for (int i = 0; i < notes.used; i++) {
                if (notes.cell(i, 0) != p) continue;
                int shown = PeopleKinds.shown(itsKind, notes.cell(i, 1), notes.cell(i, 2), notes.cell(i, 3), notes.cell(i, 4));
                if (shown != notes.cell(i, 5)) return false;
            }
            return true;
        }

        int kindsByComings(int t) {
            int bits = 0;
            for (int k = 0; k < THING_KINDS; k++) {
                if (comingsAreSo(t, k)) bits |= 1 << k;
            }
            return bits;
        }

        private boolean comingsAreSo(int t, int itsKind) {
            for (int i = 0; i < cames.used; i++) {
                if (cames.cell(i, 0) != t) continue;
                int who = goesTo(itsKind, sort[t], cames.cell(i, 1), cames.cell(i, 2));
                if (who != cames.cell(i, 3)) return false;
            }
            return true;
        }

        long mixPeople(long start) {
            long h = start;
            for (int p = 0; p < people; p++) {
                h = 31 * h + kind[p];
                h = 31 * h + house[p];
                h = 31 * h + worn[p];
                for (int s = 0; s < SORTS; s++) {
                    h = 31 * h + need[SORTS * p + s];
                }
            }
            return h;
        }

        long mixThings(long start) {
            long h = start;
            for (int t = 0; t < things; t++) {
                h = 31 * h + thingKind[t];
                h = 31 * h + sort[t];
                h = 31 * h + owner[t];
                h = 31 * h + holder[t];
                h = 31 * h + place[t];
            }
            return h;
        }
    }

    /** One thing on its way, day by day: for each person a number for having it, and for having lost it. */
    private static final class Journey {
        static final int MOST_DAYS = 30;
        static final long NEVER = 1000;

        final long[] has = new long[MOST_PEOPLE];
        final long[] lost = new long[MOST_PEOPLE];
        final long[] hasNext = new long[MOST_PEOPLE];
        final long[] lostNext = new long[MOST_PEOPLE];
        int losses;

        /** NONE: not within the days told. The losses are left in their field. */
        int fewestDays(Valley v, int t, int q) {
            setOut(v, t, NEVER, 0);
            for (int days = 0; days <= MOST_DAYS; days++) {
                if (has[q] < NEVER) {
                    losses = (int) has[q];
                    return days;
                }
                goOnByFewest(v, t, v.today + days);
            }
            return NONE;
        }

        /** The chance times 10 for each day, which keeps it whole. */
        long chanceOfTens(Valley v, int t, int q, int m, int c) {
            setOut(v, t, 0, 1);
            for (int days = 0; days < m; days++) {
                goOnByChance(v, t, v.today + days, c);
            }
            return has[q];
        }

        private void setOut(Valley v, int t, long elsewhere, long there) {
            fill(has, elsewhere);
            fill(lost, elsewhere);
            if (v.place[t] == HAD) {
                has[v.holder[t]] = there;
            } else {
                lost[v.holder[t]] = there;
            }
        }

        private void goOnByFewest(Valley v, int t, int day) {
            fill(hasNext, NEVER);
            fill(lostNext, NEVER);
            for (int p = 0; p < v.people; p++) {
                int to = v.goesTo(v.thingKind[t], v.sort[t], p, day);
                long lostNow = Math.min(has[p] + 1, lost[p]);
                hasNext[p] = Math.min(hasNext[p], has[p]);
                if (to == NONE) {
                    lostNext[p] = Math.min(lostNext[p], lostNow);
                } else {
                    hasNext[to] = Math.min(hasNext[to], lostNow);
                }
            }
            takeNext();
        }

        private void goOnByChance(Valley v, int t, int day, int c) {
            fill(hasNext, 0);
            fill(lostNext, 0);
            for (int p = 0; p < v.people; p++) {
                int to = v.goesTo(v.thingKind[t], v.sort[t], p, day);
                long lostNow = has[p] * c + lost[p] * 10;
                hasNext[p] += has[p] * (10 - c);
                if (to == NONE) {
                    lostNext[p] += lostNow;
                } else {
                    hasNext[to] += lostNow;
                }
            }
            takeNext();
        }

        private void takeNext() {
            System.arraycopy(hasNext, 0, has, 0, MOST_PEOPLE);
            System.arraycopy(lostNext, 0, lost, 0, MOST_PEOPLE);
        }

        private static void fill(long[] row, long x) {
            for (int i = 0; i < row.length; i++) {
                row[i] = x;
            }
        }
    }

    /** The text, and the valley that it tells. */
    private static final class Reader {
        static final int WORD = 0, NUMBER = 1, SEMICOLON = 2, END = 3, OTHER = 4;
        static final int BLANK = 32;

        final char[] text = new char[MOST_TEXT];
        final int[] numbers = new int[6];
        int length;
        int token;
        int start;
        int next;

        void put(char c) {
            if (length >= MOST_TEXT) return;
            text[length] = c;
            length++;
        }

        /** How many items; -10 less the fault, which is where the last token looked at starts. */
        int tell(Valley v) {
            v.empty();
            next = 0;
            toNextToken();
            if (!isWord("valley") || !itemEnds()) return -10 - start;
            int items = 1;
            while (items <= MOST_TEXT && token != END) {
                boolean told = false;
                if (isWord("person")) {
                    told = personIsTold(v);
                } else if (isWord("coat")) {
                    told = coatIsTold(v);
                } else if (isWord("thing")) {
                    told = thingIsTold(v);
                } else if (isWord("lose")) {
                    told = lossIsTold(v);
                } else if (isWord("days")) {
                    told = daysAreTold(v);
                }
                if (!told) return -10 - start;
                items++;
            }
            return items;
        }

        private boolean personIsTold(Valley v) {
            if (v.people >= MOST_PEOPLE) return false;
            if (!number(0, 0, PEOPLE_KINDS - 1) || !number(1, 0, HOUSES - 1)) return false;
            for (int s = 0; s < SORTS; s++) {
                if (!number(2 + s, 0, NEEDS - 1)) return false;
            }
            if (!itemEnds()) return false;
            v.addPerson(numbers[0], numbers[1], numbers[2], numbers[3], numbers[4], numbers[5]);
            return true;
        }

        private boolean coatIsTold(Valley v) {
            if (!number(0, 0, v.people - 1) || !number(1, 0, COATS - 1) || !itemEnds()) return false;
            v.worn[numbers[0]] = numbers[1];
            return true;
        }

        private boolean thingIsTold(Valley v) {
            if (v.things >= MOST_THINGS) return false;
            if (!number(0, 0, THING_KINDS - 1) || !number(1, 0, SORTS - 1)) return false;
            if (!number(2, 0, v.people - 1) || !itemEnds()) return false;
            v.addThing(numbers[0], numbers[1], numbers[2]);
            return true;
        }

        private boolean lossIsTold(Valley v) {
            if (!number(0, 0, v.things - 1)) return false;
            int t = numbers[0];
            if (v.place[t] != HAD || !itemEnds()) return false;
            v.place[t] = LOST;
            return true;
        }

        private boolean daysAreTold(Valley v) {
            if (!number(0, 1, 99) || !itemEnds()) return false;
            for (int i = 0; i < numbers[0]; i++) {
                v.dayGoesBy();
            }
            return true;
        }

        /** Whether the next token is a number within these bounds, which is put into its place. */
        private boolean number(int at, int least, int most) {
            toNextToken();
            if (token != NUMBER) return false;
            int x = text[start] - '0';
            if (next - start == 2) x = 10 * x + text[start + 1] - '0';
            numbers[at] = x;
            return x >= least && x <= most;
        }

        /** Whether the item ends here; then the first token of the next one is looked at. */
        private boolean itemEnds() {
            toNextToken();
            if (token != SEMICOLON) return false;
            toNextToken();
            return true;
        }

        private void toNextToken() {
            while (next < length && text[next] == BLANK) {
                next++;
            }
            start = next;
            if (start >= length) {
                token = END;
            } else if (isLetter(text[start])) {
                token = WORD;
                while (next < length && isLetter(text[next])) {
                    next++;
                }
            } else if (isFigure(text[start])) {
                while (next < length && isFigure(text[next])) {
                    next++;
                }
                token = next - start > 2 ? OTHER : NUMBER;
            } else {
                token = text[start] == ';' ? SEMICOLON : OTHER;
                next++;
            }
        }

        private boolean isWord(String word) {
            if (token != WORD || next - start != word.length()) return false;
            for (int i = 0; i < word.length(); i++) {
                if (text[start + i] != word.charAt(i)) return false;
            }
            return true;
        }

        private static boolean isLetter(char c) {
            return c >= 'a' && c <= 'z';
        }

        private static boolean isFigure(char c) {
            return c >= '0' && c <= '9';
        }
    }
}
