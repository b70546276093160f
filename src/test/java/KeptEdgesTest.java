/** Promises 34 to 39: the fraction, images that are kept and gone on from, what was refused, what there is, all of it mixed. */
public final class KeptEdgesTest extends Edges {
    // ---- 34: part

    static void promise34_atFirst() {
        asked("above", LeastNeed::new, x -> x.part(0), 0);
        asked("below", LeastNeed::new, x -> x.part(1), 1);
    }

    static void promise34_theGreatestBelow() {
        LeastNeed x = withThing(PLAIN, plain(1, 2, 2));
        x.coat(1, 1);
        x.coat(2, 1);
        x.odds(0, 0, 7, 9);
        due("above", x.part(0), 1);
        due("below", x.part(1), 10000000);
    }

    static void promise34_theLastOneAskedFor() {
        LeastNeed x = withThing(PLAIN, plain(1, 2));
        x.odds(0, 1, 1, 5);
        x.odds(0, 1, 1, 3);
        due("above", x.part(0), 3);
        due("below", x.part(1), 10);
    }

    // ---- 35: image

    private static LeastNeed worn(int coat) {
        LeastNeed x = plain(1);
        x.coat(0, coat);
        return x;
    }

    static void promise35_bothAreKeptApart() {
        LeastNeed x = worn(1);
        due("0", x.image(0), 1);
        x.coat(0, 2);
        due("1", x.image(1), 1);
        x.coat(0, 3);
        due("from 0", x.from(0), 1);
        due("coat", x.of(0, 2), 1);
        due("from 1", x.from(1), 1);
        due("coat", x.of(0, 2), 2);
    }

    static void promise35_theNewOneInPlaceOfTheOld() {
        LeastNeed x = worn(1);
        x.image(0);
        x.coat(0, 2);
        x.image(0);
        x.coat(0, 3);
        x.from(0);
        due("coat", x.of(0, 2), 2);
    }

    static void promise35_oneIsNotTheOther() {
        no("0 is kept, 1 is not", () -> {
            LeastNeed x = worn(1);
            x.image(0);
            return x;
        }, x -> x.from(1));
        no("1 is kept, 0 is not", () -> {
            LeastNeed x = worn(1);
            x.image(1);
            return x;
        }, x -> x.from(0));
    }

    static void promise35_ofNobody() {
        LeastNeed x = new LeastNeed();
        x.image(0);
        x.person(PLAIN, 0, 0, 0, 0, 0);
        due("from", x.from(0), 1);
        due("nobody", x.count(0), 0);
    }

    static void promise35_whatMayBeUndoneItKeeps() {
        LeastNeed x = plain(1);
        for (int c = 1; c <= 9; c++) x.coat(0, c);
        x.image(0);
        while (x.undo() != NO) due("undone", x.count(7) < 8 ? 1 : 0, 1);
        x.from(0);
        due("eight", x.count(7), 8);
        for (int c = 8; c >= 1; c--) {
            x.undo();
            due("coat", x.of(0, 2), c);
        }
        due("no more", x.undo(), NO);
    }

    static void promise35_changesNothingElse() {
        LeastNeed x = lived();
        long before = x.digest();
        int refusals = x.status(0) + x.status(1) + x.status(2);
        x.image(1);
        due("digest", x.digest(), before);
        due("STATUS", x.status(0) + x.status(1) + x.status(2), refusals);
    }

    static void promise35_whatComesLaterDoesNotReachIt() {
        LeastNeed x = lived();
        x.image(1);
        LeastNeed same = lived();
        same.image(1);
        x.undo();
        x.lose(2);
        x.coat(3, 3);
        x.day(5);
        x.forget(0);
        x.forget(1);
        x.note(0, 9, 9, 3, 9, 9);
        x.from(1);
        due("as it was", x.digest(), same.digest());
        x.valley();
        x.from(1);
        due("behind valley", x.digest(), same.digest());
    }

    // ---- 36: from

    static void promise36_noneKept() {
        no("0", () -> plain(1), x -> x.from(0));
        no("1", () -> plain(1), x -> x.from(1));
    }

    static void promise36_asOftenAsYouLike() {
        LeastNeed x = worn(7);
        x.image(0);
        for (int i = 0; i < 3; i++) {
            x.coat(0, i);
            due("from", x.from(0), 1);
            due("coat", x.of(0, 2), 7);
            due("one may be undone", x.count(7), 1);
        }
    }

    static void promise36_mayNotBeUndoneItself() {
        LeastNeed x = plain(1);
        x.image(0);
        x.coat(0, 1);
        x.from(0);
        due("none", x.undo(), NO);
    }

    static void promise36_allIsAsItWas() {
        LeastNeed x = lived();
        x.image(0);
        x.image(1);
        long then = x.digest();
        readText(x, "valley;person 0 0 0 0 0 0;");
        write(x, " ".repeat(150));
        x.from(0);
        due("all", x.digest(), then);
        x.valley();
        x.from(1);
        due("all of the other", x.digest(), then);
    }

    static void promise36_notTheText() {
        LeastNeed x = new LeastNeed();
        write(x, "valley;");
        x.image(0);
        write(x, "valley;days 4;");
        x.from(0);
        due("bytes", x.count(8), 14);
        due("items", x.read(), 2);
        due("image 0 is there behind it", x.from(0), 1);
        due("day 0", x.count(2), 0);
    }

    static void promise36_notTheFraction() {
        LeastNeed x = withThing(PLAIN, plain(1, 2));
        x.image(0);
        x.odds(0, 1, 1, 3);
        x.from(0);
        due("above", x.part(0), 3);
        due("below", x.part(1), 10);
    }

    static void promise36_notTheStatus() {
        LeastNeed x = new LeastNeed();
        x.image(0);
        x.undo();
        x.day(0);
        x.from(0);
        due("BAD", x.status(0), 1);
        due("NO", x.status(1), 1);
    }

    static void promise36_notTheImages() {
        LeastNeed x = worn(1);
        x.image(0);
        x.coat(0, 2);
        x.image(1);
        x.from(0);
        due("1 is still kept", x.from(1), 1);
        due("as it was", x.of(0, 2), 2);
    }

    static void promise36_theDayAsItWas() {
        LeastNeed x = onDay(9999, plain(1));
        x.image(1);
        x.valley();
        x.from(1);
        due("day", x.count(2), 9999);
        x.day(1);
        due("none goes by", x.count(2), 9999);
    }

    // ---- 37: status

    static void promise37_eachGroundIsCountedApart() {
        LeastNeed x = plain(1, 2, 3, 4, 5, 6, 7);
        due("BAD", x.day(0), BAD);
        due("NO", x.undo(), NO);
        due("NO", x.undo(), NO);
        for (int i = 0; i < 3; i++) due("FULL", x.person(0, 0, 0, 0, 0, 0), FULL);
        due("BAD", x.status(0), 1);
        due("NO", x.status(1), 2);
        due("FULL", x.status(2), 3);
    }

    static void promise37_anotherWhatIsCountedAsBad() {
        LeastNeed x = new LeastNeed();
        for (int what : new int[] {-1, 3, MIN, MAX}) due("what " + what, x.status(what), -1);
        due("BAD", x.status(0), 4);
        due("NO", x.status(1), 0);
        due("FULL", x.status(2), 0);
    }

    static void promise37_coatsWhoseAnswerIsMinusTenAreCountedAsBad() {
        LeastNeed x = new LeastNeed();
        due("coats", x.coats(0, 0, 1, 0), -10);
        due("BAD", x.status(0), 1);
    }

    static void promise37_notSoManyAreNotCounted() {
        LeastNeed x = withThing(PLAIN, plain(1, 2, 3));
        due("coats", x.coats(0, 1, 2, 36), -5);
        for (int i = 0; i < 3; i++) due("STATUS " + i, x.status(i), 0);
    }

    static void promise37_aFaultIsNotCounted() {
        LeastNeed x = new LeastNeed();
        due("read", x.read(), -10);
        for (int i = 0; i < 3; i++) due("STATUS " + i, x.status(i), 0);
    }

    static void promise37_noneAsAnAnswerIsNotCounted() {
        LeastNeed x = withThing(PLAIN, plain(1));
        x.comes(0);
        x.chain(0, 50);
        x.wears(0, 0, 0);
        x.note(0, 0, 0, 0, 0, 9);
        x.watch(0);
        for (int i = 0; i < 3; i++) due("STATUS " + i, x.status(i), 0);
    }

    static void promise37_partAndCountOfAnotherWhatAreCounted() {
        LeastNeed x = new LeastNeed();
        due("part", x.part(2), BAD);
        due("count", x.count(9), BAD);
        due("BAD", x.status(0), 2);
    }

    static void promise37_askingItIsNotCounted() {
        LeastNeed x = new LeastNeed();
        for (int i = 0; i < 9; i++) x.status(i % 3);
        due("BAD", x.status(0), 0);
    }

    static void promise37_fourHundred() {
        LeastNeed x = new LeastNeed();
        for (int i = 0; i < 400; i++) x.undo();
        due("NO", x.status(1), 400);
    }

    // ---- 38: count

    static void promise38_allAreFull() {
        LeastNeed x = lived();
        int[][] most = {{0, 7}, {1, 5}, {5, 6}, {6, 6}, {7, 8}, {8, 150}};
        for (int[] m : most) due("count " + m[0], x.count(m[0]), m[1]);
    }

    static void promise38_lostAndOnTheBoundary() {
        LeastNeed x = plain(1);
        for (int t = 0; t < 5; t++) x.thing(PLAIN, SIGHT, 0);
        due("none", x.count(3), 0);
        due("five at home", x.count(4), 5);
        x.lose(0);
        due("one is lost", x.count(3), 1);
        x.day(1);
        due("it lies", x.count(3), 1);
        for (int t = 1; t < 5; t++) x.lose(t);
        due("all five, one of them on the boundary", x.count(3), 5);
        due("none at home", x.count(4), 0);
    }

    static void promise38_hadByAnotherIsNeither() {
        LeastNeed x = withThing(PLAIN, plain(1, 2));
        x.lose(0);
        x.day(1);
        due("not lost", x.count(3), 0);
        due("not at home", x.count(4), 0);
        x.back(0);
        due("at home", x.count(4), 1);
    }

    static void promise38_theLastDay() { due("day", onDay(9999, plain(1)).count(2), 9999); }

    // ---- 39: digest

    private static long mixed(long... all) {
        long h = 1483;
        for (long v : all) h = 31 * h + v;
        return h;
    }

    static void promise39_ofANewObject() {
        asked("digest", LeastNeed::new, x -> x.digest(), mixed(0, 0, 0, 0, 0, 0, 0, 0, 0, 0, 1));
    }

    static void promise39_ofSevenPeopleItWrapsAround() {
        LeastNeed x = plain(9, 9, 9, 9, 9, 9, 9);
        long[] all = new long[9 + 49 + 2];
        all[0] = 7;
        for (int p = 0; p < 7; p++) all[9 + 7 * p + 3] = 9;
        all[59] = 1;
        due("digest", x.digest(), mixed(all));
    }

    static void promise39_eachValueInItsOrder() {
        LeastNeed x = new LeastNeed();
        x.person(MILLER, 19, 9, 8, 7, 6);
        x.person(MOODY, 18, 1, 2, 3, 4);
        x.coat(1, 5);
        x.thing(ALIVE, LEGS, 1);
        x.thing(TWIN, COURAGE, 0);
        x.day(7);
        x.lose(1);
        x.note(1, 9, 8, 3, 99, 30);
        x.came(1, 1, 98, NONE);
        x.came(0, 0, 97, 1);
        x.odds(1, 1, 2, 0);
        x.type(32);
        x.type(32);
        x.type(32);
        due("digest", x.digest(), mixed(2, 2, 7, 1, 1, 1, 2, 2, 3, MILLER, 19, 0, 9, 8, 7, 6, MOODY, 18, 5, 1, 2, 3, 4,
            ALIVE, LEGS, 1, 1, HAD, TWIN, COURAGE, 0, 0, LOST, 1, 9, 8, 3, 99, 30, 1, 1, 98, NONE, 0, 0, 97, 1, 1, 1));
    }

    static void promise39_theBoundary() {
        due("digest", lying().digest(), mixed(1, 1, 1, 1, 0, 0, 0, 2, 0, 0, 0, 0, 0, 0, 0, 0, 0, 0, 0, 0, BOUNDARY, 0, 1));
    }

    static void promise39_theFractionAtLast() {
        LeastNeed x = withThing(PLAIN, plain(1, 2, 2));
        x.coat(1, 1);
        x.coat(2, 1);
        x.odds(0, 0, 1, 10);
        long zeroByOne = x.digest();
        x.odds(0, 0, 7, 1);
        due("4782969 by 10000000", x.digest() - zeroByOne, 31 * 4782969L + 9999999L);
    }

    static void promise39_notTheTextNorImagesNorStatus() {
        LeastNeed x = new LeastNeed();
        LeastNeed y = new LeastNeed();
        write(x, "valley;");
        write(y, "town  ;");
        y.image(0);
        y.undo();
        y.day(0);
        due("alike", x.digest(), y.digest());
    }

    static void promise39_nothingOfThoseWhoWereThere() {
        LeastNeed x = lived();
        x.valley();
        x.clear();
        x.person(PLAIN, 0, 0, 0, 0, 0);
        LeastNeed y = withThing(PLAIN, plain(0));
        x.thing(PLAIN, SIGHT, 0);
        x.odds(0, 0, 0, 0);
        y.odds(0, 0, 0, 0);
        due("alike", x.digest(), y.digest());
    }

    public static void main(String[] args) {
        run(KeptEdgesTest.class, promises(34, 39));
    }
}
