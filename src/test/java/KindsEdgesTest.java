/** Promises 24 to 33: notes and comings up to the last one, what fits all of them and none, coats, odds, years at their edges. */
public final class KindsEdgesTest extends Edges {
    private static final int ALL = 63;

    private static int bits(int... kinds) {
        int all = 0;
        for (int k : kinds) all |= 1 << k;
        return all;
    }

    private static LeastNeed oneWith(int sight, int legs, int purse, int courage) {
        LeastNeed x = new LeastNeed();
        x.person(PLAIN, 0, sight, legs, purse, courage);
        return x;
    }

    private static LeastNeed noted(LeastNeed x, int n, int c, int s, int d, int shown) {
        x.note(0, n, c, s, d, shown);
        return x;
    }

    private static LeastNeed sixNotes() {
        LeastNeed x = withThing(PLAIN, plain(1, 2));
        for (int i = 0; i < 6; i++) x.note(i % 2, i, 0, 0, 0, i);
        return x;
    }

    private static LeastNeed sixComings() {
        LeastNeed x = withThing(PLAIN, plain(1, 2));
        for (int i = 0; i < 6; i++) x.came(0, i % 2, i, 1 - i % 2);
        return x;
    }

    // ---- 24: note

    static void promise24_sixOfThem() {
        LeastNeed x = plain(1);
        for (int i = 1; i <= 6; i++) due("note", x.note(0, 0, 0, 0, 0, 0), i);
        due("notes", x.count(5), 6);
    }

    static void promise24_theSeventhIsFull() {
        full("note", KindsEdgesTest::sixNotes, x -> x.note(0, 0, 0, 0, 0, 0));
        full("another one's", KindsEdgesTest::sixNotes, x -> x.note(1, 9, 9, 3, 99, 30));
    }

    static void promise24_badAheadOfFull() {
        bad("person", KindsEdgesTest::sixNotes, x -> x.note(2, 0, 0, 0, 0, 0));
        bad("shown", KindsEdgesTest::sixNotes, x -> x.note(0, 0, 0, 0, 0, 31));
    }

    static void promise24_theRefusedOneDoesNotCount() {
        LeastNeed x = sixNotes();
        int fits = x.is(0);
        x.note(0, 0, 0, 0, 0, 30);
        due("kinds as before", x.is(0), fits);
    }

    static void promise24_roomAgainBehindForget() {
        LeastNeed x = sixNotes();
        x.forget(0);
        due("first", x.note(0, 0, 0, 0, 0, 0), 1);
    }

    static void promise24_theGreatestOfAll() {
        LeastNeed x = plain(1, 2, 3, 4, 5, 6, 7);
        due("note", x.note(6, 9, 9, 3, 99, 30), 1);
        due("nobody shows 30", x.is(6), 0);
        due("the others have none", x.is(5), ALL);
    }

    static void promise24_mayNotBeUndone() { no("undo", KindsEdgesTest::sixNotes, x -> x.undo()); }

    // ---- 25: came

    static void promise25_sixOfThem() {
        LeastNeed x = withThing(PLAIN, plain(1, 2));
        for (int i = 1; i <= 6; i++) due("came", x.came(0, 0, 0, 1), i);
        due("comings", x.count(6), 6);
    }

    static void promise25_theSeventhIsFull() {
        full("to 1", KindsEdgesTest::sixComings, x -> x.came(0, 0, 0, 1));
        full("to the boundary", KindsEdgesTest::sixComings, x -> x.came(0, 1, 99, NONE));
    }

    static void promise25_badAheadOfFull() {
        bad("p and q alike", KindsEdgesTest::sixComings, x -> x.came(0, 1, 0, 1));
        bad("thing", KindsEdgesTest::sixComings, x -> x.came(1, 0, 0, 1));
        bad("day", KindsEdgesTest::sixComings, x -> x.came(0, 0, 100, 1));
    }

    static void promise25_theOneWhoLostItAndGotItAlike() {
        Made room = () -> {
            LeastNeed x = lived();
            x.forget(1);
            return x;
        };
        for (int p = 0; p < 7; p++) {
            int who = p;
            bad("person " + p, room, x -> x.came(0, who, 0, who));
            due("to another one", room.make().came(0, who, 0, (who + 1) % 7), 1);
        }
    }

    static void promise25_theBoundaryIsNone() {
        LeastNeed x = withThing(PLAIN, plain(9, 4, 4));
        due("came", x.came(0, 0, 0, NONE), 1);
        due("all but the twin lie", x.kinds(0), ALL - bits(TWIN));
    }

    static void promise25_nobodyButTheBoundary() {
        bad("NO for q", KindsEdgesTest::sixComings, x -> x.came(0, 0, 0, NO));
        bad("none for p and for q", KindsEdgesTest::sixComings, x -> x.came(0, NONE, 0, NONE));
    }

    static void promise25_mayNotBeUndone() { no("undo", KindsEdgesTest::sixComings, x -> x.undo()); }

    // ---- 26: forget

    static void promise26_noneThere() {
        asked("notes", LeastNeed::new, x -> x.forget(0), 0);
        asked("comings", LeastNeed::new, x -> x.forget(1), 0);
    }

    static void promise26_sixNotes() {
        LeastNeed x = sixNotes();
        x.came(0, 0, 0, 1);
        due("had", x.forget(0), 6);
        due("none", x.count(5), 0);
        due("all kinds", x.is(0), ALL);
        due("the coming stays", x.count(6), 1);
    }

    static void promise26_sixComings() {
        LeastNeed x = sixComings();
        x.note(0, 0, 0, 0, 0, 0);
        due("had", x.forget(1), 6);
        due("none", x.count(6), 0);
        due("all kinds", x.kinds(0), ALL);
        due("the note stays", x.count(5), 1);
    }

    static void promise26_undoStays() {
        LeastNeed x = sixNotes();
        x.coat(0, 9);
        x.forget(0);
        x.forget(1);
        due("one", x.count(7), 1);
    }

    // ---- 27: is

    static void promise27_noNotes() {
        asked("of none", () -> plain(1), x -> x.is(0), ALL);
        asked("of another one alone", () -> noted(plain(1, 2), 0, 0, 0, 0, 9), x -> x.is(1), ALL);
    }

    static void promise27_noKind() { asked("9 for 0", () -> noted(plain(1), 0, 0, 0, 0, 9), x -> x.is(0), 0); }

    static void promise27_oneNoteThatDoesNotFitIsEnough() {
        LeastNeed x = noted(plain(1), 0, 0, 0, 0, 0);
        due("all show 0", x.is(0), ALL);
        for (int i = 0; i < 4; i++) noted(x, 0, 0, 0, 0, 0);
        noted(x, 0, 0, 0, 0, 1);
        due("the sixth fits none", x.is(0), 0);
    }

    static void promise27_eachKindAlone() {
        due("plain: 9 on an odd day", noted(plain(1), 5, 4, 0, 1, 9).is(0), bits(PLAIN));
        due("rich: a purse of 4", noted(plain(1), 5, 4, 2, 1, 4).is(0), bits(RICH));
        due("proud: a purse of 5", noted(plain(1), 5, 4, 2, 1, 5).is(0), bits(PROUD));
        due("moody: 20", noted(plain(1), 9, 9, 2, 99, 20).is(0), bits(MOODY));
        due("miller or nun: no purse", noted(plain(1), 9, 9, 2, 0, 0).is(0), bits(MILLER, NUN));
        due("miller: sight of 4", noted(noted(plain(1), 9, 9, 2, 0, 0), 5, 4, 0, 1, 4).is(0), bits(MILLER));
        due("nun: courage of 5", noted(noted(plain(1), 9, 9, 2, 0, 0), 5, 4, 3, 1, 5).is(0), bits(NUN));
    }

    static void promise27_days0And99() {
        due("0 is even", noted(plain(1), 9, 0, 0, 0, 9).is(0), bits(PLAIN, PROUD, MOODY));
        due("99 is odd", noted(plain(1), 9, 0, 0, 99, 11).is(0), bits(MOODY));
        due("98 is even", noted(plain(1), 9, 0, 0, 98, 11).is(0), 0);
    }

    static void promise27_notByWhatThatOneIsNow() {
        LeastNeed x = new LeastNeed();
        x.person(NUN, 0, 7, 7, 7, 7);
        x.coat(0, 9);
        due("by the note alone", noted(x, 5, 0, 0, 1, 5).is(0), bits(PLAIN, PROUD));
    }

    // ---- 28: watch

    static void promise28_noKind() { asked("none", () -> noted(plain(1), 0, 0, 0, 0, 9), x -> x.watch(0), NONE); }

    static void promise28_oneKindTheLeast() {
        asked("moody", () -> noted(plain(1), 9, 9, 3, 99, 20), x -> x.watch(0), 0);
    }

    static void promise28_likeOnesTheLeast() {
        due("needs 0: sight on day 1, as all others", oneWith(0, 0, 0, 0).watch(0), 1);
        due("no difference at all", noted(noted(oneWith(0, 0, 0, 0), 9, 9, 0, 1, 9), 9, 9, 2, 0, 9).watch(0), 0);
    }

    static void promise28_eachSortOnDay1() {
        due("sight: 9 4 9 11 4 0", oneWith(9, 0, 0, 0).watch(0), 1);
        due("legs: 9 4 9 11 4 0", oneWith(0, 9, 0, 0).watch(0), 11);
        due("purse: 9 4 9 11 0 0", oneWith(0, 0, 9, 0).watch(0), 21);
        due("courage: 9 4 9 11 4 9", oneWith(0, 0, 0, 9).watch(0), 31);
    }

    static void promise28_theMillersPurse() {
        LeastNeed x = noted(oneWith(9, 9, 9, 9), 9, 9, 0, 0, 9);
        x.note(0, 8, 9, 0, 0, 8);
        due("rich, proud, miller show 9, rich and miller 8 for 17", x.is(0), bits(RICH, PROUD, MILLER));
        x.note(0, 5, 4, 0, 0, 4);
        due("rich, miller", x.is(0), bits(RICH, MILLER));
        due("purse, day 0", x.watch(0), 20);
    }

    static void promise28_theCoatAsItIs() {
        LeastNeed x = noted(oneWith(0, 0, 0, 0), 5, 0, 0, 0, 5);
        due("plain, proud, moody", x.is(0), bits(PLAIN, PROUD, MOODY));
        due("no coat: plain and proud are alike", x.watch(0), 1);
        x.coat(0, 2);
        due("a coat of 2: 2 0 2, then 2 0 4", x.watch(0), 1);
        LeastNeed y = noted(noted(oneWith(0, 0, 0, 0), 5, 0, 0, 0, 5), 5, 0, 0, 1, 5);
        due("plain, proud", y.is(0), bits(PLAIN, PROUD));
        due("no coat: nothing tells them", y.watch(0), 0);
    }

    static void promise28_ofTheLastOfSeven() {
        LeastNeed x = plain(1, 2, 3, 4, 5, 6);
        x.person(PLAIN, 0, 0, 0, 0, 9);
        due("courage, day 1", x.watch(6), 31);
    }

    static void promise28_notTheDayItIs() { due("on day 1 the same", onDay(1, oneWith(0, 0, 0, 0)).watch(0), 1); }

    // ---- 29: kinds

    static void promise29_noComings() {
        asked("of none", () -> withThing(PLAIN, plain(1)), x -> x.kinds(0), ALL);
        LeastNeed x = withThing(PLAIN, plain(1, 2, 3));
        x.thing(PLAIN, SIGHT, 0);
        x.came(0, 0, 0, 2);
        due("of another one alone", x.kinds(1), ALL);
    }

    static void promise29_noKind() {
        LeastNeed x = withThing(PLAIN, plain(9, 1, 2, 3));
        x.came(0, 0, 0, 2);
        due("neither the least nor the most", x.kinds(0), 0);
    }

    static void promise29_oneComingThatDoesNotFitIsEnough() {
        LeastNeed x = withThing(PLAIN, plain(9, 1, 2));
        for (int i = 0; i < 5; i++) x.came(0, 0, i, 1);
        due("all but the useless", x.kinds(0), ALL - bits(USELESS));
        x.came(0, 0, 5, NONE);
        due("none", x.kinds(0), 0);
    }

    static void promise29_nobodyElseItLies() {
        LeastNeed x = withThing(PLAIN, plain(1));
        x.came(0, 0, 0, NONE);
        due("all kinds", x.kinds(0), ALL);
    }

    static void promise29_sevenHousesAway() {
        LeastNeed x = withThing(PLAIN, housed(new int[] {0, 7}, 1, 2));
        x.came(0, 0, 0, NONE);
        due("alive, shy", x.kinds(0), bits(ALIVE, SHY));
        LeastNeed y = withThing(PLAIN, housed(new int[] {0, 6}, 1, 2));
        y.came(0, 0, 0, NONE);
        due("six: none", y.kinds(0), 0);
    }

    static void promise29_days0And99() {
        LeastNeed x = plain(9);
        x.person(MOODY, 0, 2, 0, 0, 0);
        x.person(PLAIN, 0, 3, 0, 0, 0);
        x.thing(PLAIN, SIGHT, 0);
        x.came(0, 0, 99, 2);
        due("odd: moody shows 4 of sight, 2 of legs", x.kinds(0), ALL - bits(USELESS));
        x.forget(1);
        x.came(0, 0, 0, 1);
        due("even: moody shows 2", x.kinds(0), ALL - bits(USELESS));
    }

    static void promise29_ofThatThingLostByThatOne() {
        LeastNeed x = plain(1, 2, 3);
        for (int t = 0; t < 3; t++) x.thing(PLAIN, SIGHT, 0);
        x.came(2, 1, 0, 0);
        due("thing 2, by 1 to 0", x.kinds(2), ALL - bits(USELESS));
        due("thing 1", x.kinds(1), ALL);
        x.came(0, 2, 0, 1);
        due("thing 0, by 2 to 1, who needs it more", x.kinds(0), bits(USELESS));
        due("thing 2 still", x.kinds(2), ALL - bits(USELESS));
    }

    static void promise29_bySortOfTheThing() {
        LeastNeed x = new LeastNeed();
        x.person(PLAIN, 0, 0, 0, 0, 0);
        x.person(PLAIN, 0, 9, 0, 0, 1);
        x.person(PLAIN, 0, 0, 9, 9, 2);
        x.thing(PLAIN, COURAGE, 0);
        x.came(0, 0, 0, 1);
        due("courage 1 and 2; with sight 10 and 2", x.kinds(0), bits(PLAIN, ALIVE, SHY));
    }

    static void promise29_peopleAndCoatsAsTheyAreThen() {
        LeastNeed x = withThing(PLAIN, plain(9, 1, 2));
        x.came(0, 0, 0, 1);
        due("1 and 2", x.kinds(0), ALL - bits(USELESS));
        x.coat(1, 2);
        due("3 and 2 (legs 2 and 0)", x.kinds(0), bits(USELESS));
        x.coat(1, 0);
        x.person(PLAIN, 0, 0, 0, 0, 0);
        due("one who came later needs less", x.kinds(0), 0);
    }

    // ---- 30: by

    static void promise30_noKind() {
        asked("none", () -> {
            LeastNeed x = withThing(PLAIN, plain(9, 1, 2, 3));
            x.came(0, 0, 0, 2);
            return x;
        }, x -> x.by(0), NONE);
    }

    static void promise30_likeOnesTheFirst() {
        due("one alone", withThing(PLAIN, plain(1)).by(0), 0);
        due("two", withThing(PLAIN, plain(1, 1)).by(0), 0);
        due("all alike to all", withThing(PLAIN, plain(4, 4, 4, 4, 4, 4, 4)).by(0), 0);
    }

    static void promise30_theBoundaryIsAnAnswerToo() {
        LeastNeed x = withThing(PLAIN, plain(0, 4, 4));
        x.came(0, 0, 0, NONE);
        due("all but the twin", x.kinds(0), ALL - bits(TWIN));
        due("by 0 five lie, by 1 four come to 0", x.by(0), 1);
    }

    static void promise30_oneKindTheFirst() {
        LeastNeed x = withThing(PLAIN, plain(9, 1, 2, 3));
        x.came(0, 0, 0, 3);
        due("useless alone", x.kinds(0), bits(USELESS));
        due("the first", x.by(0), 0);
    }

    static void promise30_theLastOfSeven() {
        LeastNeed x = withThing(PLAIN, housed(new int[] {3, 3, 3, 3, 3, 3, 10}, 0, 1, 9, 9, 9, 9, 9));
        due("by 0 to 1, but a useless one lies; by the last to 0, a useless one lies, a living one, a shy one too", x.by(0), 6);
    }

    static void promise30_today() {
        LeastNeed x = new LeastNeed();
        x.person(MOODY, 0, 0, 0, 0, 0);
        x.person(PLAIN, 0, 2, 0, 0, 0);
        x.person(PLAIN, 0, 9, 0, 0, 0);
        x.thing(PLAIN, SIGHT, 0);
        due("even: by each one five alike", x.by(0), 0);
        x.day(1);
        due("odd: by 2 pair and twin to 1, the others lie", x.by(0), 2);
    }

    // ---- 31: coats

    static void promise31_howManyAndEach() {
        Made two = () -> withThing(PLAIN, plain(9, 3, 5, 9));
        asked("how many", two, x -> x.coats(0, 1, 2, NONE), 4);
        int[] pairs = {12, 19, 26, 33};
        for (int k = 0; k < 4; k++) {
            int kth = k;
            asked("the " + k + "-th", two, x -> x.coats(0, 1, 2, kth), pairs[k]);
        }
    }

    static void promise31_notSoMany() {
        Made two = () -> withThing(PLAIN, plain(9, 3, 5, 9));
        for (int k : new int[] {4, 35, 36, 1000, MAX}) asked("k " + k, two, x -> x.coats(0, 1, 2, k), -5);
    }

    static void promise31_noneRests() {
        Made twins = () -> withThing(TWIN, plain(9, 0, 0));
        asked("how many", twins, x -> x.coats(0, 1, 2, NONE), 0);
        asked("the first", twins, x -> x.coats(0, 1, 2, 0), -5);
    }

    static void promise31_fiveIsTheGreatestCoat() {
        asked("4 is enough", () -> withThing(PLAIN, plain(9, 0, 9, 4)), x -> x.coats(0, 1, 2, 0), 24);
        asked("5 is enough", () -> withThing(PLAIN, plain(9, 0, 9, 5)), x -> x.coats(0, 1, 2, 0), 30);
        asked("and nothing else", () -> withThing(PLAIN, plain(9, 0, 9, 5)), x -> x.coats(0, 1, 2, NONE), 1);
        asked("6 would be: none then", () -> withThing(PLAIN, plain(9, 0, 9, 6)), x -> x.coats(0, 1, 2, 0), 0);
        asked("and nothing else", () -> withThing(PLAIN, plain(9, 0, 9, 6)), x -> x.coats(0, 1, 2, NONE), 1);
        asked("5 of the other", () -> withThing(PLAIN, plain(9, 9, 0, 5)), x -> x.coats(0, 1, 2, 0), 5);
    }

    static void promise31_alike() {
        for (int p = 0; p < 7; p++) {
            int who = p;
            refused("person " + p, Edges::lived, x -> x.coats(0, who, who, NONE), -10, AS_BAD);
        }
    }

    static void promise31_kBelowNone() {
        for (int k : new int[] {-2, -5, -10, MIN}) refused("k " + k, Edges::lived, x -> x.coats(0, 0, 1, k), -10, AS_BAD);
    }

    static void promise31_nobodyThere() {
        refused("nobody", LeastNeed::new, x -> x.coats(0, 0, 1, NONE), -10, AS_BAD);
        refused("one alone", () -> withThing(PLAIN, plain(1)), x -> x.coats(0, 0, 1, NONE), -10, AS_BAD);
    }

    static void promise31_coatsThatAreOnDoNotCount() {
        LeastNeed x = withThing(PLAIN, plain(9, 3, 5, 9));
        x.coat(1, 9);
        x.coat(2, 9);
        due("how many", x.coats(0, 1, 2, NONE), 4);
        due("the first", x.coats(0, 1, 2, 0), 12);
        x.coat(3, 0);
        due("both still wear 9", x.of(1, 2) + x.of(2, 2), 18);
    }

    static void promise31_othersCoatsDo() {
        LeastNeed x = withThing(PLAIN, plain(9, 0, 9, 0));
        due("alike: it lies", x.coats(0, 1, 2, 0), 0);
        x.coat(3, 3);
        due("3 more", x.coats(0, 1, 2, 0), 18);
    }

    static void promise31_whoHasItGetsItNever() {
        LeastNeed x = withThing(PLAIN, plain(0, 4, 5));
        due("how many", x.coats(0, 0, 1, NONE), 1);
        due("1 wears 1", x.coats(0, 0, 1, 0), 1);
        x.lose(0);
        due("who lost it, too", x.coats(0, 0, 1, 0), 1);
    }

    static void promise31_today() {
        LeastNeed x = plain(9);
        x.person(MOODY, 0, 0, 0, 0, 0);
        x.person(PLAIN, 0, 9, 0, 0, 0);
        x.person(PLAIN, 0, 3, 0, 0, 0);
        x.thing(PLAIN, SIGHT, 0);
        due("even: 3 more", x.coats(0, 1, 2, 0), 18);
        x.day(1);
        due("odd: 1 more", x.coats(0, 1, 2, 0), 6);
    }

    // ---- 32: odds

    private static void chance(String what, LeastNeed x, int q, int m, int c, long above, long below) {
        due(what, x.odds(0, q, m, c), 1);
        due(what + ", above", x.part(0), above);
        due(what + ", below", x.part(1), below);
    }

    static void promise32_behindNoDay() {
        chance("has it", withThing(PLAIN, plain(1, 2)), 0, 0, 10, 1, 1);
        chance("has it not", withThing(PLAIN, plain(1, 2)), 1, 0, 10, 0, 1);
        chance("lost: nobody has it", lying(), 0, 0, 0, 0, 1);
    }

    static void promise32_neverLost() {
        chance("has it", withThing(PLAIN, plain(1, 2)), 0, 7, 0, 1, 1);
        chance("has it not", withThing(PLAIN, plain(1, 2)), 1, 7, 0, 0, 1);
    }

    static void promise32_alwaysLost() {
        chance("seven days: the other", withThing(PLAIN, plain(1, 2)), 1, 7, 10, 1, 1);
        chance("six: the first", withThing(PLAIN, plain(1, 2)), 0, 6, 10, 1, 1);
    }

    static void promise32_sevenDaysByOneOfTen() {
        LeastNeed x = withThing(PLAIN, plain(1, 2, 2));
        x.coat(1, 1);
        x.coat(2, 1);
        chance("kept for seven days, else it lies", x, 0, 7, 1, 4782969, 10000000);
    }

    static void promise32_nineOfTen() { chance("a day", withThing(PLAIN, plain(1, 2)), 1, 1, 9, 9, 10); }

    static void promise32_lowestTerms() {
        chance("5 of 10", withThing(PLAIN, plain(1, 2)), 1, 1, 5, 1, 2);
        chance("half of all, behind seven days", withThing(PLAIN, plain(1, 2)), 1, 7, 5, 1, 2);
        chance("2 of 10 twice, 8 of 10 twice", withThing(PLAIN, plain(1, 2)), 0, 2, 2, 17, 25);
    }

    static void promise32_noneIsZeroByOne() {
        LeastNeed x = withThing(PLAIN, plain(1, 2, 9));
        chance("first a half", x, 1, 1, 5, 1, 2);
        chance("never to 2", x, 2, 7, 5, 0, 1);
    }

    static void promise32_lostItComesWhateverTheOdds() {
        LeastNeed x = withThing(PLAIN, plain(1, 2));
        x.lose(0);
        chance("by 0 of 10", x, 1, 1, 0, 1, 1);
        chance("by 10 of 10", x, 1, 1, 10, 1, 1);
    }

    static void promise32_onTheBoundaryItIsNotLostAgain() {
        Made made = () -> {
            LeastNeed x = onDay(1, plain(9));
            x.person(MOODY, 0, 2, 0, 0, 0);
            x.person(PLAIN, 0, 4, 0, 0, 0);
            return withThing(PLAIN, x);
        };
        chance("a day: it lies", made.make(), 1, 1, 3, 0, 1);
        chance("two days: .3 and .7 times .3", made.make(), 1, 2, 3, 51, 100);
        chance("three days, who had it first", made.make(), 0, 3, 3, 343, 1000);
        chance("three days, .7 of .51", made.make(), 1, 3, 3, 357, 1000);
        chance("three days, .3 of .51", made.make(), 2, 3, 3, 153, 1000);
        chance("four days, .147 from the boundary", made.make(), 1, 4, 3, 5457, 10000);
        chance("four days", made.make(), 2, 4, 3, 1071, 5000);
        LeastNeed x = made.make();
        x.lose(0);
        x.day(1);
        chance("lying now", x, 1, 1, 3, 1, 1);
    }

    static void promise32_refusedItLeavesTheFraction() {
        LeastNeed x = withThing(PLAIN, plain(1, 2));
        chance("a half", x, 1, 1, 5, 1, 2);
        due("BAD", x.odds(0, 0, 8, 5), BAD);
        due("above", x.part(0), 1);
        due("below", x.part(1), 2);
    }

    static void promise32_daysGoBeyondTheLastOne() {
        LeastNeed x = onDay(9999, plain(9));
        x.person(MOODY, 0, 2, 0, 0, 0);
        x.person(PLAIN, 0, 3, 0, 0, 0);
        x.thing(PLAIN, SIGHT, 0);
        chance("odd: to 2; even: to 1", x, 1, 2, 10, 1, 1);
        due("the day stays", x.count(2), 9999);
    }

    static void promise32_ofTheLastOfSeven() {
        LeastNeed x = withThing(PLAIN, plain(9, 8, 7, 6, 5, 4, 3));
        chance("has it", x, 6, 1, 3, 3, 10);
        chance("by it to 5", x, 5, 2, 3, 9, 100);
    }

    static void promise32_changesNothingButTheFraction() {
        LeastNeed x = lived();
        LeastNeed y = lived();
        x.odds(1, 2, 7, 5);
        y.odds(1, 2, 7, 5);
        for (int i = 0; i < 3; i++) x.odds(i, i, i, 10);
        x.odds(1, 2, 7, 5);
        due("all else", allOf(x).equals(allOf(y)) ? 1 : 0, 1);
    }

    // ---- 33: years

    /** Five things of person 0, of two people, so that each loss takes it to the other one. */
    private static LeastNeed toAndFro() {
        LeastNeed x = plain(1, 2);
        for (int t = 0; t < 5; t++) x.thing(PLAIN, SIGHT, 0);
        return x;
    }

    static void promise33_nothingThere() {
        asked("nobody", LeastNeed::new, x -> x.years(0, 60), 0);
        asked("no things", () -> plain(1, 2), x -> x.years(999999, 60), 0);
    }

    static void promise33_noDay() {
        asked("all at home", KindsEdgesTest::toAndFro, x -> x.years(1, 0), 5);
        asked("what is lost is not had", () -> {
            LeastNeed x = toAndFro();
            x.lose(2);
            return x;
        }, x -> x.years(1, 0), 4);
        asked("what lies is not had", Edges::lying, x -> x.years(1, 0), 0);
    }

    static void promise33_seed0() {
        // X by 65536: 0, 21468, 9988, 22117, 3498; by 5 left over: 0, 3, 3, 2, 3
        int[] home = {5, 4, 3, 4, 3, 2};
        for (int n = 0; n < 6; n++) {
            int days = n;
            asked("days " + n, KindsEdgesTest::toAndFro, x -> x.years(0, days), home[n]);
        }
    }

    static void promise33_seed1() {
        // X by 65536: 16838, 5758, 10113, 17515, 31051, 5627, 23010, 7419; by 5 left over: 3, 3, 3, 0, 1, 2, 0, 4
        int[] home = {5, 4, 5, 4, 3, 2, 1, 2, 1};
        for (int n = 0; n < 9; n++) due("days " + n, toAndFro().years(1, n), home[n]);
    }

    static void promise33_theGreatestSeedWrapsAround() {
        java.math.BigInteger x = java.math.BigInteger.valueOf(999999);
        boolean[] away = new boolean[5];
        for (int n = 1; n <= 60; n++) {
            x = x.multiply(java.math.BigInteger.valueOf(1103515245)).add(java.math.BigInteger.valueOf(12345));
            x = x.mod(java.math.BigInteger.valueOf(2147483648L));
            int t = x.divide(java.math.BigInteger.valueOf(65536)).mod(java.math.BigInteger.valueOf(5)).intValue();
            away[t] = !away[t];
            int home = 0;
            for (boolean a : away) if (!a) home++;
            due("days " + n, toAndFro().years(999999, n), home);
        }
    }

    static void promise33_aThingThatIsNotThere() {
        LeastNeed x = plain(1, 2);
        for (int t = 0; t < 3; t++) x.thing(PLAIN, SIGHT, 0);
        due("3, 3, 3 are not there", x.years(1, 3), 3);
        due("0 is", x.years(1, 4), 2);
    }

    static void promise33_whatIsLostNowComesOrLies() {
        LeastNeed x = onDay(1, plain(9));
        x.person(MOODY, 0, 2, 0, 0, 0);
        x.person(PLAIN, 0, 4, 0, 0, 0);
        x.thing(PLAIN, SIGHT, 1);
        x.thing(PLAIN, SIGHT, 0);
        x.lose(1);
        due("a day (X is 3): it lies", x.years(1, 1), 1);
        due("two days (3 again): to 1, not to its owner", x.years(1, 2), 1);
        x.undo();
        due("had by its owner", x.years(1, 2), 2);
    }

    static void promise33_whatIsLostThatDayComesThatDay() {
        due("thing 0 on the first day", withThing(PLAIN, plain(1, 2)).years(0, 1), 0);
    }

    /** On 9999, an odd day, 4 and 4 like it; on the day behind it 4 and 2, its owner. */
    static void promise33_daysGoBeyondTheLastOne() {
        Made made = () -> {
            LeastNeed x = onDay(9998, plain(4));
            x.person(MOODY, 0, 2, 0, 0, 0);
            x.person(PLAIN, 0, 0, 0, 0, 0);
            x.thing(PLAIN, SIGHT, 1);
            x.lose(0);
            x.day(1);
            due("2 has it", x.about(0, 3), 2);
            x.lose(0);
            return x;
        };
        for (int seed : new int[] {0, 1, 2, 3, 999999}) {
            asked("a day, it lies", made, x -> x.years(seed, 1), 0);
            asked("two days, its owner has it", made, x -> x.years(seed, 2), 1);
        }
        LeastNeed x = made.make();
        x.years(7, 60);
        due("the day stays", x.count(2), 9999);
    }

    public static void main(String[] args) {
        run(KindsEdgesTest.class, promises(24, 33));
    }
}
