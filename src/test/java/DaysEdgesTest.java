/** Promises 8 to 14: what is lost, given back, put on; days up to the last one; what may be undone, and what not. */
public final class DaysEdgesTest extends Edges {
    /** On even days the moody one needs it least, on odd ones they are alike: 2 and 4, 4 and 4. */
    private static LeastNeed alikeOnOddDays() {
        LeastNeed x = plain(9);
        x.person(MOODY, 0, 2, 0, 0, 0);
        x.person(PLAIN, 0, 4, 0, 0, 0);
        return withThing(PLAIN, x);
    }

    /** A thing of person 0, who lost it, came to person 1 of that kind with these needs of sight and purse. */
    private static LeastNeed cameTo(int kind, int sort, int sight, int purse) {
        LeastNeed x = new LeastNeed();
        x.person(PLAIN, 0, 9, 9, 9, 9);
        x.person(kind, 0, sight, 0, purse, 0);
        x.thing(PLAIN, sort, 0);
        x.lose(0);
        x.day(1);
        return x;
    }

    private static LeastNeed lostToday() {
        LeastNeed x = withThing(PLAIN, plain(1, 2));
        x.lose(0);
        return x;
    }

    // ---- 8: lose

    static void promise8_whatIsLostTodayIsNo() { no("lose", DaysEdgesTest::lostToday, x -> x.lose(0)); }

    static void promise8_whatLiesOnTheBoundaryIsNo() { no("lose", Edges::lying, x -> x.lose(0)); }

    static void promise8_badAheadOfNo() { bad("a thing not there", DaysEdgesTest::lostToday, x -> x.lose(1)); }

    static void promise8_whoThatWas() {
        LeastNeed x = plain(1, 2, 3, 4, 5, 6, 7);
        x.thing(PLAIN, SIGHT, 0);
        x.thing(PLAIN, SIGHT, 6);
        due("the first one", x.lose(0), 0);
        due("the last one", x.lose(1), 6);
    }

    static void promise8_byWhoHasItNotByItsOwner() {
        LeastNeed x = lostToday();
        x.day(1);
        due("lost by 1", x.lose(0), 1);
        due("who lost it", x.about(0, 3), 1);
        due("its owner", x.about(0, 2), 0);
    }

    static void promise8_theLastThing() {
        LeastNeed x = plain(1, 2);
        for (int t = 0; t < 5; t++) x.thing(PLAIN, SIGHT, 1);
        due("lose", x.lose(4), 1);
        for (int t = 0; t < 5; t++) due("thing " + t, x.about(t, 4), t == 4 ? LOST : HAD);
    }

    static void promise8_onTheLastDayToo() {
        LeastNeed x = onDay(9999, withThing(PLAIN, plain(1, 2)));
        due("lose", x.lose(0), 0);
        due("lost", x.about(0, 4), LOST);
    }

    // ---- 9: back

    static void promise9_theOwnerHasItAtFirst() { no("back", () -> withThing(PLAIN, plain(1, 2)), x -> x.back(0)); }

    static void promise9_theOwnerHasItAgain() {
        no("back", () -> {
            LeastNeed x = cameTo(PLAIN, SIGHT, 0, 0);
            x.lose(0);
            x.day(1);
            due("came back", x.about(0, 3), 0);
            return x;
        }, x -> x.back(0));
    }

    static void promise9_lostByItsOwner() { no("back", DaysEdgesTest::lostToday, x -> x.back(0)); }

    static void promise9_lostByAnother() {
        no("back", () -> {
            LeastNeed x = cameTo(PLAIN, SIGHT, 0, 0);
            x.lose(0);
            return x;
        }, x -> x.back(0));
    }

    static void promise9_onTheBoundary() { no("back", Edges::lying, x -> x.back(0)); }

    static void promise9_onTheBoundaryLostByAnother() {
        no("back", () -> {
            LeastNeed x = alikeOnOddDays();
            x.lose(0);
            x.day(1);
            x.person(PLAIN, 0, 4, 0, 0, 0);
            x.lose(0);
            x.day(1);
            due("lost by 1", x.about(0, 3), 1);
            due("it lies", x.about(0, 4), BOUNDARY);
            return x;
        }, x -> x.back(0));
    }

    static void promise9_badAheadOfNo() { bad("a thing not there", DaysEdgesTest::lostToday, x -> x.back(1)); }

    static void promise9_givenBackTheOwnerHasIt() {
        LeastNeed x = cameTo(PLAIN, SIGHT, 4, 0);
        due("asked", x.back(0), 5);
        due("has it", x.about(0, 3), 0);
        due("had", x.about(0, 4), HAD);
        due("once more", x.back(0), NO);
    }

    static void promise9_plain9LessAtLeast0() {
        for (int need = 0; need <= 8; need++) due("9 less " + need, cameTo(PLAIN, SIGHT, need, 0).back(0), 9 - need);
        for (int coat = 0; coat < 3; coat++) {
            LeastNeed x = cameTo(PLAIN, SIGHT, 8, 0);
            x.coat(1, coat);
            due("8 and a coat of " + coat, x.back(0), coat == 0 ? 1 : 0);
        }
    }

    static void promise9_neverBelow0() {
        LeastNeed x = cameTo(MOODY, SIGHT, 6, 0);
        x.coat(1, 9);
        due("shows on day 1", x.shows(1, SIGHT), 17);
        due("asked", x.back(0), 0);
    }

    static void promise9_richTwiceOfAHalf() {
        int[][] needs = {{0, 18}, {1, 18}, {2, 16}, {7, 12}, {8, 10}, {9, 10}};
        for (int[] n : needs) due("need " + n[0], cameTo(RICH, SIGHT, n[0], 0).back(0), n[1]);
        LeastNeed x = cameTo(RICH, SIGHT, 9, 0);
        x.coat(1, 8);
        due("17, by half 8", x.back(0), 2);
        LeastNeed y = cameTo(RICH, SIGHT, 9, 0);
        y.coat(1, 9);
        due("18, by half 9", y.back(0), 0);
    }

    static void promise9_millerThreeMoreThanRich() {
        due("need 0", cameTo(MILLER, SIGHT, 0, 0).back(0), 21);
        due("need 9, by half 4", cameTo(MILLER, SIGHT, 9, 0).back(0), 13);
        due("a purse is not needed", cameTo(MILLER, PURSE, 0, 9).back(0), 21);
        LeastNeed x = cameTo(MILLER, SIGHT, 9, 0);
        x.coat(1, 9);
        due("three at least", x.back(0), 3);
    }

    static void promise9_proudAsPlainWithoutTheCoat() {
        LeastNeed x = cameTo(PROUD, SIGHT, 4, 0);
        x.coat(1, 9);
        due("asked", x.back(0), 5);
    }

    static void promise9_theNunAsksNothing() {
        due("sight", cameTo(NUN, SIGHT, 9, 0).back(0), 0);
        due("courage, of which she shows 0", cameTo(NUN, COURAGE, 0, 0).back(0), 0);
    }

    static void promise9_moodyByTheDay() {
        LeastNeed x = cameTo(MOODY, SIGHT, 4, 0);
        due("day 1: 9 less 6", x.back(0), 3);
        x.undo();
        x.day(1);
        due("day 2: 9 less 4", x.back(0), 5);
    }

    static void promise9_bySortOfTheThing() {
        due("purse 7", cameTo(PLAIN, PURSE, 0, 7).back(0), 2);
        due("legs 0", cameTo(PLAIN, LEGS, 9, 9).back(0), 9);
    }

    // ---- 10: coat

    static void promise10_whatItWas() {
        LeastNeed x = plain(1);
        due("0 at first", x.coat(0, 9), 0);
        due("9", x.coat(0, 0), 9);
        due("0 again", x.coat(0, 0), 0);
    }

    static void promise10_theSameCoatMayBeUndoneToo() {
        LeastNeed x = plain(1);
        x.coat(0, 0);
        due("may be undone", x.count(7), 1);
        due("undo", x.undo(), 0);
    }

    static void promise10_ofThatPersonAlone() {
        LeastNeed x = plain(1, 2, 3, 4, 5, 6, 7);
        x.coat(6, 9);
        for (int p = 0; p < 7; p++) due("coat of " + p, x.of(p, 2), p == 6 ? 9 : 0);
    }

    static void promise10_countsAtOnce() {
        LeastNeed x = plain(5);
        x.coat(0, 9);
        due("shows", x.shows(0, SIGHT), 14);
        due("of all sorts", x.shows(0, COURAGE), 9);
        due("the need stays", x.of(0, 4), 5);
    }

    // ---- 11: day

    static void promise11_aDayIsOneMore() { due("day", onDay(1, plain(1)).count(2), 1); }

    static void promise11_99DaysGoBy() {
        LeastNeed x = plain(1);
        x.day(99);
        due("day", x.count(2), 99);
    }

    static void promise11_withNobodyThere() {
        LeastNeed x = new LeastNeed();
        due("boundary", x.day(2), 0);
        due("day", x.count(2), 2);
    }

    static void promise11_upToTheLastDay() {
        LeastNeed x = onDay(9900, plain(1));
        x.day(98);
        due("9998", x.count(2), 9998);
        x.day(1);
        due("9999", x.count(2), 9999);
        LeastNeed y = onDay(9900, plain(1));
        y.day(99);
        due("9999 at once", y.count(2), 9999);
    }

    static void promise11_notBeyondTheLastDay() {
        LeastNeed x = onDay(9901, plain(1));
        x.day(99);
        due("98 of 99 go by", x.count(2), 9999);
        x.day(1);
        due("none", x.count(2), 9999);
        x.day(99);
        due("none again", x.count(2), 9999);
    }

    static void promise11_at9999WhatIsLostStaysLost() {
        LeastNeed x = onDay(9999, withThing(PLAIN, plain(1, 2)));
        x.lose(0);
        due("boundary", x.day(1), 0);
        due("lost", x.about(0, 4), LOST);
        due("by 0", x.about(0, 3), 0);
    }

    static void promise11_at9999WhatLiesStaysThere() {
        LeastNeed x = onDay(9998, withThing(PLAIN, plain(9, 4)));
        x.person(MOODY, 0, 4, 0, 0, 0);
        x.lose(0);
        due("alike on 9998, one day goes by of five", x.day(5), 1);
        due("day", x.count(2), 9999);
        due("the odd day does not go by", x.day(9), 1);
        due("boundary", x.about(0, 4), BOUNDARY);
    }

    static void promise11_at9999ItMayBeUndoneThoughNoneGoesBy() {
        LeastNeed x = onDay(9999, new LeastNeed());
        x.person(PLAIN, 0, 0, 0, 0, 0);
        due("none behind a person", x.count(7), 0);
        x.day(1);
        due("one", x.count(7), 1);
        due("undo", x.undo(), 9999);
        due("none", x.undo(), NO);
    }

    static void promise11_daysTogetherAreOne() {
        LeastNeed x = plain(1);
        x.day(99);
        x.day(50);
        due("two", x.count(7), 2);
        due("99", x.undo(), 99);
        due("0", x.undo(), 0);
        due("none", x.undo(), NO);
    }

    static void promise11_noneOnTheBoundary() {
        LeastNeed x = lostToday();
        due("it came", x.day(1), 0);
    }

    static void promise11_allFiveOnTheBoundary() {
        LeastNeed x = plain(1);
        for (int t = 0; t < 5; t++) x.thing(t, t % 4, 0);
        for (int t = 0; t < 5; t++) x.lose(t);
        due("one day", x.day(1), 5);
        due("98 more", x.day(98), 5);
        due("lost by 0 still", x.about(4, 3), 0);
    }

    static void promise11_whatIsHadDoesNotCome() {
        LeastNeed x = withThing(PLAIN, plain(9, 0));
        x.day(99);
        due("0 has it", x.about(0, 3), 0);
        due("had", x.about(0, 4), HAD);
    }

    static void promise11_whoGotItKeepsItOnTheNextDays() {
        LeastNeed x = withThing(PLAIN, plain(9, 1, 2));
        x.lose(0);
        x.day(99);
        due("1 has it", x.about(0, 3), 1);
    }

    static void promise11_byWhatAllShowOnThatDay() {
        LeastNeed x = alikeOnOddDays();
        x.lose(0);
        due("day 0: it comes", x.day(1), 0);
        due("to the moody one", x.about(0, 3), 1);
        LeastNeed y = onDay(1, alikeOnOddDays());
        y.lose(0);
        due("day 1: it lies", y.day(1), 1);
    }

    static void promise11_fromTheBoundaryOnTheNextDay() {
        LeastNeed x = onDay(1, alikeOnOddDays());
        x.lose(0);
        due("two days", x.day(2), 0);
        due("to the moody one", x.about(0, 3), 1);
        due("had", x.about(0, 4), HAD);
    }

    static void promise11_severalThingsDoNotHinderOneAnother() {
        LeastNeed x = plain(9, 1, 2);
        for (int t = 0; t < 3; t++) x.thing(PLAIN, SIGHT, t);
        for (int t = 0; t < 3; t++) x.lose(t);
        due("none lies", x.day(1), 0);
        due("of 0: to 1", x.about(0, 3), 1);
        due("of 1: to 2", x.about(1, 3), 2);
        due("of 2: to 1", x.about(2, 3), 1);
    }

    // ---- 12: undo

    static void promise12_noneMayBeUndone() {
        no("nothing was done", () -> plain(1), x -> x.undo());
        no("all is undone", () -> {
            LeastNeed x = plain(1);
            x.coat(0, 1);
            x.undo();
            return x;
        }, x -> x.undo());
    }

    static void promise12_eightAtMost() {
        LeastNeed x = plain(1);
        for (int c = 1; c <= 7; c++) x.coat(0, c);
        due("seven", x.count(7), 7);
        x.coat(0, 8);
        due("eight", x.count(7), 8);
        x.coat(0, 9);
        due("still eight", x.count(7), 8);
    }

    static void promise12_theNinthPushesOutTheFirst() {
        LeastNeed x = plain(1);
        for (int c = 1; c <= 9; c++) x.coat(0, c);
        for (int c = 8; c >= 1; c--) {
            due("undo", x.undo(), 0);
            due("coat", x.of(0, 2), c);
        }
        due("the first coat stays on", x.undo(), NO);
        due("coat", x.of(0, 2), 1);
    }

    static void promise12_exactlyEightAreAllUndone() {
        LeastNeed x = plain(1);
        for (int c = 1; c <= 8; c++) x.coat(0, c);
        for (int i = 0; i < 8; i++) x.undo();
        due("no coat", x.of(0, 2), 0);
        due("no more", x.undo(), NO);
    }

    static void promise12_behindAPersonNoneMayBe() {
        no("undo", () -> {
            LeastNeed x = plain(1);
            x.coat(0, 1);
            x.person(PLAIN, 0, 0, 0, 0, 0);
            return x;
        }, x -> x.undo());
    }

    static void promise12_behindAThingNoneMayBe() {
        no("undo", () -> {
            LeastNeed x = plain(1);
            x.coat(0, 1);
            x.thing(PLAIN, SIGHT, 0);
            return x;
        }, x -> x.undo());
    }

    static void promise12_behindARefusedPersonOrThingItMay() {
        LeastNeed x = lived();
        due("eight", x.count(7), 8);
        x.person(PLAIN, 0, 0, 0, 0, 0);
        x.person(6, 0, 0, 0, 0, 0);
        x.thing(PLAIN, 0, 0);
        x.thing(6, 0, 0);
        due("eight still", x.count(7), 8);
        due("undo", x.undo(), 3);
    }

    static void promise12_refusedOnesAreNotKept() {
        LeastNeed x = lostToday();
        x.lose(0);
        x.back(0);
        x.coat(0, 10);
        x.day(0);
        x.day(100);
        due("the loss alone", x.count(7), 1);
        x.undo();
        due("had", x.about(0, 4), HAD);
    }

    static void promise12_aLoss() {
        LeastNeed x = lostToday();
        due("undo", x.undo(), 0);
        due("had", x.about(0, 4), HAD);
        due("by 0", x.about(0, 3), 0);
    }

    static void promise12_daysFromTheBoundary() {
        LeastNeed x = onDay(1, alikeOnOddDays());
        x.lose(0);
        x.day(1);
        x.day(1);
        due("it came", x.about(0, 3), 1);
        due("the last day", x.undo(), 2);
        due("it lies again", x.about(0, 4), BOUNDARY);
        due("lost by 0", x.about(0, 3), 0);
        due("the one before", x.undo(), 1);
        due("it is lost again, on no boundary", x.about(0, 4), LOST);
    }

    static void promise12_99DaysAtOnce() {
        LeastNeed x = onDay(7, plain(1));
        x.day(99);
        due("undo", x.undo(), 7);
        due("day", x.count(2), 7);
    }

    static void promise12_theLastDay() {
        LeastNeed x = onDay(9998, plain(1));
        x.day(50);
        due("undo", x.undo(), 9998);
    }

    static void promise12_aGivingBack() {
        LeastNeed x = cameTo(PLAIN, SIGHT, 0, 0);
        x.back(0);
        due("undo", x.undo(), 1);
        due("1 has it", x.about(0, 3), 1);
        due("back again", x.back(0), 9);
    }

    static void promise12_aCoatOfEachOne() {
        LeastNeed x = plain(1, 2, 3, 4, 5, 6, 7);
        for (int p = 0; p < 7; p++) x.coat(p, p + 1);
        x.coat(6, 0);
        x.undo();
        for (int p = 0; p < 7; p++) due("coat of " + p, x.of(p, 2), p + 1);
        x.undo();
        due("the last one wears none", x.of(6, 2), 0);
        due("the one before does", x.of(5, 2), 6);
    }

    private static void stands(String what, LeastNeed x, int[] who, int[] how) {
        for (int t = 0; t < 5; t++) {
            due(what + ", thing " + t + ", who", x.about(t, 3), who[t]);
            due(what + ", thing " + t + ", how", x.about(t, 4), how[t]);
        }
    }

    static void promise12_allFiveThingsAndEightChanges() {
        LeastNeed x = onDay(5, plain(9, 1, 2));
        for (int owner : new int[] {0, 1, 2, 0, 2}) x.thing(PLAIN, SIGHT, owner);
        x.lose(0);
        x.lose(1);
        x.lose(4);
        x.day(1);
        x.coat(1, 1);
        x.lose(3);
        x.day(1);
        due("2 is asked for", x.back(4), 7);
        stands("all done", x, new int[] {1, 2, 2, 0, 2}, new int[] {HAD, HAD, HAD, BOUNDARY, HAD});
        due("the giving back", x.undo(), 7);
        stands("not given back", x, new int[] {1, 2, 2, 0, 1}, new int[] {HAD, HAD, HAD, BOUNDARY, HAD});
        due("the second day", x.undo(), 6);
        stands("not on the boundary", x, new int[] {1, 2, 2, 0, 1}, new int[] {HAD, HAD, HAD, LOST, HAD});
        due("the last loss", x.undo(), 6);
        due("coat", x.of(1, 2), 1);
        due("the coat", x.undo(), 6);
        due("no coat", x.of(1, 2), 0);
        stands("came", x, new int[] {1, 2, 2, 0, 1}, new int[] {HAD, HAD, HAD, HAD, HAD});
        due("the first day", x.undo(), 5);
        stands("three lost", x, new int[] {0, 1, 2, 0, 2}, new int[] {LOST, LOST, HAD, HAD, LOST});
        due("the third loss", x.undo(), 5);
        stands("two lost", x, new int[] {0, 1, 2, 0, 2}, new int[] {LOST, LOST, HAD, HAD, HAD});
        due("the second loss", x.undo(), 5);
        due("the first loss", x.undo(), 5);
        stands("none lost", x, new int[] {0, 1, 2, 0, 2}, new int[5]);
        due("no more", x.undo(), NO);
    }

    static void promise12_allElseStays() {
        LeastNeed x = small();
        x.coat(0, 9);
        x.note(0, 1, 1, 1, 1, 1);
        x.came(1, 0, 0, 2);
        x.type(';');
        x.odds(0, 0, 1, 9);
        due("undo", x.undo(), 0);
        due("notes", x.count(5), 2);
        due("comings", x.count(6), 2);
        due("bytes", x.count(8), 35);
        due("fraction", x.part(0), 1);
        due("by", x.part(1), 10);
        due("people", x.count(0), 3);
        due("things", x.count(1), 2);
        due("image 1", x.from(1), 1);
        due("image 0", x.from(0), NO);
    }

    static void promise12_notesAndComingsMayNotBeUndone() {
        LeastNeed x = withThing(PLAIN, plain(1, 2));
        x.note(0, 0, 0, 0, 0, 0);
        x.came(0, 0, 0, 1);
        x.forget(0);
        x.image(0);
        x.odds(0, 0, 0, 0);
        due("none", x.undo(), NO);
    }

    static void promise12_behindAnUndoItGoesOn() {
        LeastNeed x = plain(1);
        x.coat(0, 1);
        x.coat(0, 2);
        x.undo();
        x.coat(0, 3);
        due("two", x.count(7), 2);
        x.undo();
        due("1", x.of(0, 2), 1);
        x.undo();
        due("0", x.of(0, 2), 0);
    }

    // ---- 13: of

    static void promise13_noneOfTheThings() { due("had", plain(1).of(0, 3), 0); }

    static void promise13_allFiveThings() {
        LeastNeed x = plain(1, 2);
        for (int t = 0; t < 5; t++) x.thing(PLAIN, SIGHT, 1);
        due("had by 1", x.of(1, 3), 5);
        due("had by 0", x.of(0, 3), 0);
    }

    static void promise13_lostIsNotHad() { due("had by 0", lostToday().of(0, 3), 0); }

    static void promise13_onTheBoundaryIsNotHad() { due("had by 0", lying().of(0, 3), 0); }

    static void promise13_hadByAnotherThanTheOwner() {
        LeastNeed x = cameTo(PLAIN, SIGHT, 0, 0);
        due("by 1", x.of(1, 3), 1);
        due("by 0", x.of(0, 3), 0);
    }

    static void promise13_eachOfTheEight() {
        LeastNeed x = plain(1, 2, 3, 4, 5, 6);
        x.person(MILLER, 19, 9, 8, 7, 6);
        x.coat(6, 5);
        x.thing(PLAIN, SIGHT, 6);
        int[] told = {MILLER, 19, 5, 1, 9, 8, 7, 6};
        for (int what = 0; what < 8; what++) due("of " + what, x.of(6, what), told[what]);
    }

    // ---- 14: about

    static void promise14_had() {
        LeastNeed x = withThing(PLAIN, plain(1, 2));
        due("by 0", x.about(0, 3), 0);
        due("had", x.about(0, 4), 0);
    }

    static void promise14_lost() {
        due("by 0", lostToday().about(0, 3), 0);
        due("lost", lostToday().about(0, 4), 1);
    }

    static void promise14_onTheBoundaryStillLostByThatOne() {
        due("by 0", lying().about(0, 3), 0);
        due("boundary", lying().about(0, 4), 2);
    }

    static void promise14_eachOfTheFive() {
        LeastNeed x = plain(1, 2, 3, 4, 5, 6, 0);
        for (int t = 0; t < 4; t++) x.thing(PLAIN, SIGHT, 0);
        x.thing(ALIVE, COURAGE, 5);
        x.lose(4);
        x.coat(0, 1);
        x.coat(1, 1);
        x.coat(2, 1);
        x.coat(3, 1);
        x.coat(4, 1);
        x.day(1);
        int[] told = {ALIVE, COURAGE, 5, 6, HAD};
        for (int what = 0; what < 5; what++) due("about " + what, x.about(4, what), told[what]);
    }

    public static void main(String[] args) {
        run(DaysEdgesTest.class, promises(8, 14));
    }
}
