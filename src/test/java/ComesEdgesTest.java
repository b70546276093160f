/** Promises 15 to 23: who shows what at the edges, to whom it comes, nearly comes and does not, how far, how dear. */
public final class ComesEdgesTest extends Edges {
    /** Seven in a row of houses, each needing less than the one before: what is shy goes from each to the next one. */
    private static LeastNeed inARow() {
        return withThing(SHY, housed(new int[] {0, 2, 4, 6, 8, 10, 12}, 9, 8, 7, 6, 5, 4, 3));
    }

    private static LeastNeed lost(LeastNeed x) {
        x.lose(0);
        return x;
    }

    private static LeastNeed coated(LeastNeed x, int... coats) {
        for (int p = 0; p < coats.length; p++) if (coats[p] > 0) x.coat(p, coats[p]);
        return x;
    }

    private static LeastNeed one(int kind, int need) {
        LeastNeed x = new LeastNeed();
        x.person(kind, 0, need, need, need, need);
        return x;
    }

    private static void showsAll(String what, LeastNeed x, int... due) {
        for (int s = 0; s < 4; s++) due(what + ", sort " + s, x.shows(0, s), due[s]);
    }

    // ---- 15: shows

    static void promise15_plain0And18() {
        showsAll("least", one(PLAIN, 0), 0, 0, 0, 0);
        showsAll("greatest", coated(one(PLAIN, 9), 9), 18, 18, 18, 18);
    }

    static void promise15_richIsCut() {
        showsAll("1", one(RICH, 1), 0, 0, 0, 0);
        showsAll("9", one(RICH, 9), 4, 4, 4, 4);
        showsAll("9 and 8", coated(one(RICH, 9), 8), 8, 8, 8, 8);
        showsAll("9 and 9", coated(one(RICH, 9), 9), 9, 9, 9, 9);
        showsAll("need and coat are cut together: 1 and 1", coated(one(RICH, 1), 1), 1, 1, 1, 1);
    }

    static void promise15_proudWithoutTheCoat() { showsAll("9 and 9", coated(one(PROUD, 9), 9), 9, 9, 9, 9); }

    static void promise15_moodyTwoMoreOnOddDays() {
        int[][] days = {{0, 18}, {1, 20}, {2, 18}, {99, 20}, {100, 18}, {9998, 18}, {9999, 20}};
        for (int[] d : days) {
            LeastNeed x = onDay(d[0], one(MOODY, 9));
            x.coat(0, 9);
            showsAll("day " + d[0], x, d[1], d[1], d[1], d[1]);
        }
        showsAll("0 on an odd day", onDay(1, one(MOODY, 0)), 2, 2, 2, 2);
    }

    static void promise15_theOthersAlikeOnOddDays() {
        int[] kinds = {PLAIN, RICH, PROUD};
        int[] shown = {7, 3, 7};
        for (int i = 0; i < 3; i++) {
            showsAll("kind " + kinds[i], onDay(1, one(kinds[i], 7)), shown[i], shown[i], shown[i], shown[i]);
        }
        showsAll("miller", onDay(1, one(MILLER, 7)), 3, 3, 0, 3);
        showsAll("nun", onDay(1, one(NUN, 7)), 0, 0, 0, 7);
    }

    static void promise15_millerNeedsNoPurse() {
        showsAll("9 and 9", coated(one(MILLER, 9), 9), 9, 9, 0, 9);
        showsAll("1", one(MILLER, 1), 0, 0, 0, 0);
    }

    static void promise15_nunCourageAlone() {
        showsAll("9 and 9", coated(one(NUN, 9), 9), 0, 0, 0, 9);
        showsAll("0", one(NUN, 0), 0, 0, 0, 0);
    }

    // ---- 16: comes

    static void promise16_nobodyElse() {
        for (int kind = 0; kind < 6; kind++) asked("kind " + kind, withA(kind), x -> x.comes(0), NONE);
    }

    private static Made withA(int kind) {
        return () -> withThing(kind, plain(0));
    }

    static void promise16_notToWhoHasItThoughThatOneNeedsItLeast() { due("to 1", withThing(PLAIN, plain(0, 9)).comes(0), 1); }

    static void promise16_notToWhoLostIt() {
        due("lost today", lost(withThing(PLAIN, plain(0, 9))).comes(0), 1);
        LeastNeed x = lying();
        x.person(PLAIN, 0, 9, 0, 0, 0);
        due("on the boundary", x.comes(0), 1);
    }

    static void promise16_twoLikeOnes() { due("boundary", withThing(PLAIN, plain(9, 4, 4)).comes(0), NONE); }

    static void promise16_sixLikeOnes() {
        due("boundary", withThing(PLAIN, plain(9, 4, 4, 4, 4, 4, 4)).comes(0), NONE);
        due("twin: the first", withThing(TWIN, plain(9, 4, 4, 4, 4, 4, 4)).comes(0), 1);
    }

    static void promise16_likeOnesWhoAreNotTheLeast() {
        due("the least is the last", withThing(PLAIN, plain(9, 4, 4, 3)).comes(0), 3);
        due("the least is the first", withThing(PLAIN, plain(9, 3, 4, 4)).comes(0), 1);
        due("the least is between them", withThing(PLAIN, plain(9, 4, 3, 4)).comes(0), 2);
        due("like ones behind like ones", withThing(PLAIN, plain(9, 4, 4, 3, 3)).comes(0), NONE);
        due("like ones, then more, then like ones again", withThing(PLAIN, plain(9, 3, 4, 3)).comes(0), NONE);
    }

    static void promise16_alikeToWhoLostItIsNotALikeOne() { due("to 1", withThing(PLAIN, plain(4, 4, 9)).comes(0), 1); }

    static void promise16_oneMoreIsEnough() {
        due("4 and 5", withThing(PLAIN, plain(9, 4, 5)).comes(0), 1);
        due("a coat makes them alike", coated(withThing(PLAIN, plain(9, 4, 5)), 0, 1).comes(0), NONE);
        due("one more", coated(withThing(PLAIN, plain(9, 4, 5)), 0, 2).comes(0), 2);
    }

    static void promise16_twinTheFirstOfLikeOnes() {
        due("1", withThing(TWIN, plain(9, 4, 4)).comes(0), 1);
        LeastNeed x = plain(4, 9, 4, 4);
        x.thing(TWIN, SIGHT, 0);
        x.thing(TWIN, SIGHT, 3);
        due("not who has it", x.comes(0), 2);
        due("of 3: 0", x.comes(1), 0);
    }

    static void promise16_pairBySortAndTheNext() {
        LeastNeed x = new LeastNeed();
        x.person(PLAIN, 0, 0, 0, 0, 0);
        x.person(PLAIN, 0, 5, 1, 2, 9);
        x.person(PLAIN, 0, 4, 3, 1, 8);
        for (int s = 0; s < 4; s++) x.thing(PAIR, s, 0);
        due("sight and legs: 6 and 7", x.comes(0), 1);
        due("legs and purse: 3 and 4", x.comes(1), 1);
        due("purse and courage: 11 and 9", x.comes(2), 2);
        due("courage and sight: 14 and 12", x.comes(3), 2);
    }

    static void promise16_behindCourageComesSight() {
        LeastNeed x = new LeastNeed();
        x.person(PLAIN, 0, 9, 9, 9, 9);
        x.person(PLAIN, 0, 5, 0, 0, 1);
        x.person(PLAIN, 0, 2, 9, 9, 3);
        x.thing(PAIR, COURAGE, 0);
        x.thing(TWIN, COURAGE, 0);
        due("pair: 6 and 5", x.comes(0), 2);
        due("twin: 6 and 5", x.comes(1), 2);
    }

    static void promise16_aPairAlikeLiesATwinDoesNot() {
        LeastNeed x = new LeastNeed();
        x.person(PLAIN, 0, 9, 9, 9, 9);
        x.person(PLAIN, 0, 5, 2, 0, 0);
        x.person(PLAIN, 0, 3, 4, 0, 0);
        x.thing(PAIR, SIGHT, 0);
        x.thing(TWIN, SIGHT, 0);
        due("pair", x.comes(0), NONE);
        due("twin", x.comes(1), 1);
    }

    static void promise16_aliveUpToSixHouses() {
        for (int kind : new int[] {ALIVE, SHY}) {
            due("six up", withThing(kind, housed(new int[] {0, 6}, 9, 9)).comes(0), 1);
            due("seven up", withThing(kind, housed(new int[] {0, 7}, 9, 0)).comes(0), NONE);
            due("six down", withThing(kind, housed(new int[] {19, 13}, 9, 9)).comes(0), 1);
            due("seven down", withThing(kind, housed(new int[] {19, 12}, 9, 0)).comes(0), NONE);
            due("19 up", withThing(kind, housed(new int[] {0, 19}, 9, 0)).comes(0), NONE);
        }
        due("plain ones come as far as you like", withThing(PLAIN, housed(new int[] {0, 19}, 9, 9)).comes(0), 1);
    }

    static void promise16_fromTheHouseOfWhoLostItNotOfItsOwner() {
        LeastNeed x = withThing(ALIVE, housed(new int[] {0, 6, 12}, 9, 4, 3));
        due("12 is too far from 0", x.comes(0), 1);
        x.lose(0);
        x.day(1);
        due("1 has it: 12 is not too far from 6", x.comes(0), 2);
        x.lose(0);
        due("lost by 1", x.comes(0), 2);
        x.day(1);
        due("2 has it", x.about(0, 3), 2);
        due("from 12 to 6 alone", x.comes(0), 1);
    }

    static void promise16_oneTooFarDoesNotMakeThemAlike() {
        due("alive", withThing(ALIVE, housed(new int[] {0, 7, 6}, 9, 4, 4)).comes(0), 2);
        due("plain: they are", withThing(PLAIN, housed(new int[] {0, 7, 6}, 9, 4, 4)).comes(0), NONE);
    }

    static void promise16_aliveIsNotNearerInTheNextHouse() {
        due("alike", withThing(ALIVE, housed(new int[] {0, 0, 6}, 9, 4, 4)).comes(0), NONE);
    }

    static void promise16_shyByHowFar() {
        due("0 houses and 4, 1 house and 3: alike", withThing(SHY, housed(new int[] {5, 5, 6}, 9, 4, 3)).comes(0), NONE);
        due("0 and 4, 1 and 4", withThing(SHY, housed(new int[] {5, 5, 6}, 9, 4, 4)).comes(0), 1);
        due("0 and 4, 1 and 2", withThing(SHY, housed(new int[] {5, 5, 6}, 9, 4, 2)).comes(0), 2);
        due("6 and 0, 0 and 6: alike", withThing(SHY, housed(new int[] {10, 16, 10}, 9, 0, 6)).comes(0), NONE);
        due("up and down alike", withThing(SHY, housed(new int[] {10, 8, 12}, 9, 4, 4)).comes(0), NONE);
    }

    static void promise16_uselessToWhoNeedsItMost() {
        due("9", withThing(USELESS, plain(9, 0, 8, 7)).comes(0), 2);
        due("alike", withThing(USELESS, plain(9, 8, 0, 8)).comes(0), NONE);
        LeastNeed x = onDay(1, plain(0, 9, 9));
        x.person(MOODY, 0, 9, 0, 0, 0);
        x.coat(3, 9);
        x.coat(1, 9);
        x.thing(USELESS, SIGHT, 0);
        due("20 is the most there is", x.comes(0), 3);
    }

    static void promise16_byWhatIsShownNotByNeed() {
        LeastNeed x = new LeastNeed();
        x.person(PLAIN, 0, 0, 0, 0, 0);
        x.person(PLAIN, 0, 0, 1, 1, 5);
        x.person(NUN, 0, 9, 9, 9, 9);
        x.person(MILLER, 0, 9, 9, 9, 9);
        for (int s = 0; s < 4; s++) x.thing(PLAIN, s, 0);
        due("sight: 0, 0 and 4", x.comes(0), NONE);
        due("legs: 1, 0 and 4", x.comes(1), 2);
        due("purse: 1, 0 and 0", x.comes(2), NONE);
        due("courage: 5, 9 and 4", x.comes(3), 3);
    }

    // ---- 17: chain

    static void promise17_noStep() {
        asked("had", () -> withThing(PLAIN, plain(3, 2)), x -> x.chain(0, 0), 0);
        asked("lost", () -> lost(withThing(PLAIN, plain(3, 2))), x -> x.chain(0, 0), 0);
        asked("on the boundary", Edges::lying, x -> x.chain(0, 0), 0);
    }

    static void promise17_oneStepIsWhereItComes() {
        asked("to 2", () -> withThing(PLAIN, plain(3, 2, 1)), x -> x.chain(0, 1), 2);
        asked("to the boundary", () -> withThing(PLAIN, plain(3, 2, 2)), x -> x.chain(0, 1), NONE);
    }

    static void promise17_fiftySteps() {
        due("an even number", withThing(PLAIN, plain(3, 2)).chain(0, 50), 0);
        due("49", withThing(PLAIN, plain(3, 2)).chain(0, 49), 1);
        asked("in a row: 6, 5, 6 ..", ComesEdgesTest::inARow, x -> x.chain(0, 50), 6);
    }

    static void promise17_onTheBoundaryItStays() {
        LeastNeed x = plain(1, 2, 2);
        x.thing(PLAIN, SIGHT, 2);
        due("to 0", x.chain(0, 1), 0);
        for (int m = 2; m <= 50; m += 12) due("behind " + m, x.chain(0, m), NONE);
    }

    static void promise17_alwaysByToday() {
        LeastNeed x = onDay(1, plain(9, 4));
        x.person(MOODY, 0, 3, 0, 0, 0);
        x.thing(PLAIN, SIGHT, 0);
        due("to 1, who shows 4 (moody: 5)", x.chain(0, 1), 1);
        due("to the moody one", x.chain(0, 2), 2);
        due("and to 1 again", x.chain(0, 3), 1);
    }

    static void promise17_whoLostItGetsItLater() { due("two steps", lost(withThing(PLAIN, plain(3, 2))).chain(0, 2), 0); }

    // ---- 18: ring

    static void promise18_oneAlone() {
        asked("had by one", () -> withThing(PLAIN, plain(1)), x -> x.ring(0, 0), 1);
        asked("no ring", () -> withThing(PLAIN, plain(1)), x -> x.ring(0, 1), 0);
        asked("on the boundary", Edges::lying, x -> x.ring(0, 0), 1);
        asked("no ring there", Edges::lying, x -> x.ring(0, 1), 0);
    }

    static void promise18_twoAndTheFirstAgain() {
        asked("had by two", () -> withThing(PLAIN, plain(1, 2)), x -> x.ring(0, 0), 2);
        asked("their ring", () -> withThing(PLAIN, plain(1, 2)), x -> x.ring(0, 1), 2);
    }

    static void promise18_allSeven() {
        asked("had by seven", ComesEdgesTest::inARow, x -> x.ring(0, 0), 7);
        asked("the last two's ring", ComesEdgesTest::inARow, x -> x.ring(0, 1), 2);
    }

    static void promise18_sixAndTheBoundary() {
        LeastNeed x = coated(inARow(), 0, 0, 0, 0, 0, 0, 2);
        due("the sixth counts the fifth 7, the last 7: six have it", x.ring(0, 0), 6);
        due("no ring", x.ring(0, 1), 0);
        x.coat(6, 3);
        due("7 and 8: six have it", x.ring(0, 0), 6);
        due("the fifth's and the sixth's ring", x.ring(0, 1), 2);
        x.coat(6, 1);
        due("7 and 6: seven have it", x.ring(0, 0), 7);
    }

    static void promise18_whoLostItCountsAsHavingItFirst() {
        asked("two", () -> lost(withThing(PLAIN, plain(1, 2))), x -> x.ring(0, 0), 2);
        asked("their ring", () -> lost(withThing(PLAIN, plain(1, 2))), x -> x.ring(0, 1), 2);
    }

    // ---- 19: send

    static void promise19_whoHasItNeedsNoDay() {
        asked("days", () -> withThing(PLAIN, plain(1)), x -> x.send(0, 0, 0), 0);
        asked("losses", () -> withThing(PLAIN, plain(1)), x -> x.send(0, 0, 1), 0);
    }

    static void promise19_whoLostItHasItNot() {
        asked("alone: never", Edges::lying, x -> x.send(0, 0, 0), NONE);
        asked("alone: no losses", Edges::lying, x -> x.send(0, 0, 1), NONE);
        asked("there and back: two days", () -> lost(withThing(PLAIN, plain(1, 2))), x -> x.send(0, 0, 0), 2);
        asked("and one loss", () -> lost(withThing(PLAIN, plain(1, 2))), x -> x.send(0, 0, 1), 1);
    }

    static void promise19_aDayALoss() {
        asked("a day", () -> withThing(PLAIN, plain(2, 1)), x -> x.send(0, 1, 0), 1);
        asked("a loss", () -> withThing(PLAIN, plain(2, 1)), x -> x.send(0, 1, 1), 1);
    }

    static void promise19_sixDaysSixLosses() {
        for (int q = 0; q < 7; q++) {
            due("days to " + q, inARow().send(0, q, 0), q);
            due("losses to " + q, inARow().send(0, q, 1), q);
        }
    }

    static void promise19_whatIsLostAlreadyCostsOneLossLess() {
        for (int q = 1; q < 7; q++) {
            due("days to " + q, lost(inARow()).send(0, q, 0), q);
            due("losses to " + q, lost(inARow()).send(0, q, 1), q - 1);
        }
        due("and to 0 again, by 1", lost(inARow()).send(0, 0, 0), NONE);
    }

    static void promise19_nobodyGetsIt() {
        asked("who needs it most", () -> withThing(PLAIN, plain(1, 2, 9)), x -> x.send(0, 2, 0), NONE);
        asked("losses", () -> withThing(PLAIN, plain(1, 2, 9)), x -> x.send(0, 2, 1), NONE);
        asked("two like it for ever", () -> withThing(PLAIN, plain(9, 2, 2)), x -> x.send(0, 1, 0), NONE);
    }

    /** Moody 2 and 4, plain 3: on even days it goes to 1, on odd ones to 2. */
    private static LeastNeed byTurns() {
        LeastNeed x = plain(9);
        x.person(MOODY, 0, 2, 0, 0, 0);
        x.person(PLAIN, 0, 3, 0, 0, 0);
        return withThing(PLAIN, x);
    }

    static void promise19_keptForADayItCostsFewerLosses() {
        asked("two days: by 1, or kept", ComesEdgesTest::byTurns, x -> x.send(0, 2, 0), 2);
        asked("kept, then lost: one loss", ComesEdgesTest::byTurns, x -> x.send(0, 2, 1), 1);
        asked("lost today it is not kept", () -> lost(byTurns()), x -> x.send(0, 2, 0), 2);
        asked("1 loses it", () -> lost(byTurns()), x -> x.send(0, 2, 1), 1);
    }

    /**
     * On even days it goes from 0 to 3 (3, moody), on odd ones to 1 (4); from 3 to 5, from 5 to 6;
     * from 1 to 6 on odd days alone (on even ones 5 and 6 are alike). So to 6 by 3 and 5, or, a day later, by 1 alone.
     */
    private static LeastNeed shortOrCheap() {
        int[] kinds = {MOODY, PLAIN, PLAIN, MOODY, MOODY, MOODY, PLAIN};
        int[] houses = {14, 8, 0, 13, 3, 7, 6};
        int[] needs = {8, 4, 1, 3, 3, 1, 1};
        LeastNeed x = new LeastNeed();
        for (int p = 0; p < 7; p++) x.person(kinds[p], houses[p], needs[p], 0, 0, 0);
        return withThing(ALIVE, x);
    }

    static void promise19_fewerDaysAheadOfFewerLosses() {
        asked("three days", ComesEdgesTest::shortOrCheap, x -> x.send(0, 6, 0), 3);
        asked("three losses, though four days would cost two", ComesEdgesTest::shortOrCheap, x -> x.send(0, 6, 1), 3);
        asked("to 1 on the odd day", ComesEdgesTest::shortOrCheap, x -> x.send(0, 1, 0), 2);
        asked("to 1, one loss", ComesEdgesTest::shortOrCheap, x -> x.send(0, 1, 1), 1);
    }

    static void promise19_onTheBoundaryItComesEachDay() {
        Made lies = () -> {
            LeastNeed x = onDay(1, plain(9));
            x.person(MOODY, 0, 2, 0, 0, 0);
            x.person(PLAIN, 0, 4, 0, 0, 0);
            return withThing(PLAIN, x);
        };
        asked("today it lies, tomorrow it comes", lies, x -> x.send(0, 1, 0), 2);
        asked("one loss", lies, x -> x.send(0, 1, 1), 1);
        asked("lost now, no loss more", () -> lost(lies.make()), x -> x.send(0, 1, 1), 0);
        LeastNeed x = lost(lies.make());
        x.day(1);
        due("it lies now", x.about(0, 4), BOUNDARY);
        due("a day", x.send(0, 1, 0), 1);
        due("no loss", x.send(0, 1, 1), 0);
    }

    static void promise19_daysGoBeyondTheLastOne() {
        LeastNeed x = onDay(9999, byTurns());
        due("odd, the last: to 2", x.send(0, 2, 0), 1);
        due("even, the one behind it: to 1", x.send(0, 1, 0), 2);
        due("with one loss", x.send(0, 1, 1), 1);
        due("the day stays", x.count(2), 9999);
    }

    static void promise19_toTheLastOfSeven() {
        LeastNeed x = withThing(PLAIN, plain(9, 8, 7, 6, 5, 4, 3));
        due("days", x.send(0, 6, 0), 1);
        due("to 5 by 6", x.send(0, 5, 0), 2);
        due("to 4 never", x.send(0, 4, 0), NONE);
    }

    // ---- 20: wears

    private static void wears(LeastNeed x, int p, int away, int towards) {
        due("that it does not come to " + p, x.wears(p, 0, 0), away);
        due("that it comes to " + p, x.wears(p, 0, 1), towards);
    }

    static void promise20_whoHasIt() {
        asked("not", () -> withThing(PLAIN, plain(1, 2)), x -> x.wears(0, 0, 0), NONE);
        asked("so", () -> withThing(PLAIN, plain(1, 2)), x -> x.wears(0, 0, 1), NONE);
    }

    static void promise20_whoLostIt() {
        asked("not", () -> lost(withThing(PLAIN, plain(1, 2))), x -> x.wears(0, 0, 0), NONE);
        asked("so", () -> lost(withThing(PLAIN, plain(1, 2))), x -> x.wears(0, 0, 1), NONE);
        asked("on the boundary, not", Edges::lying, x -> x.wears(0, 0, 0), NONE);
        asked("on the boundary, so", Edges::lying, x -> x.wears(0, 0, 1), NONE);
    }

    static void promise20_noCoatIsTheLeast() {
        wears(withThing(PLAIN, plain(9, 3, 2)), 1, 0, NONE);
        due("it comes without one", withThing(PLAIN, plain(9, 3, 4)).wears(1, 0, 1), 0);
    }

    static void promise20_oneIsEnoughIfItLiesThen() { wears(withThing(PLAIN, plain(9, 3, 4)), 1, 1, 0); }

    static void promise20_nineIsTheGreatest() {
        wears(withThing(PLAIN, plain(9, 0, 9)), 1, 9, 0);
        wears(coated(withThing(PLAIN, plain(9, 0, 9)), 0, 0, 1), 1, NONE, 0);
        wears(withThing(USELESS, plain(9, 0, 8)), 1, 0, 9);
        wears(withThing(USELESS, plain(9, 0, 9)), 1, 0, NONE);
    }

    static void promise20_aloneNoCoatHelps() { wears(withThing(PLAIN, plain(9, 3)), 1, NONE, 0); }

    static void promise20_tooFarForAny() { wears(withThing(ALIVE, housed(new int[] {0, 7}, 9, 0)), 1, 0, NONE); }

    static void promise20_theProudOneNever() {
        LeastNeed x = plain(9);
        x.person(PROUD, 0, 3, 0, 0, 0);
        x.person(PLAIN, 0, 4, 0, 0, 0);
        wears(withThing(PLAIN, x), 1, NONE, 0);
    }

    static void promise20_theRichOneTwice() {
        LeastNeed x = plain(9);
        x.person(RICH, 0, 0, 0, 0, 0);
        x.person(PLAIN, 0, 2, 0, 0, 0);
        wears(withThing(PLAIN, x), 1, 4, 0);
    }

    static void promise20_notTheCoatThatIsOn() { wears(coated(withThing(PLAIN, plain(9, 3, 5)), 0, 9), 1, 2, 0); }

    static void promise20_othersCoatsStayOn() { wears(coated(withThing(PLAIN, plain(9, 3, 5)), 0, 0, 4), 1, 6, 0); }

    static void promise20_twinsFirst() {
        wears(withThing(TWIN, plain(9, 3, 3)), 1, 1, 0);
        wears(withThing(TWIN, plain(9, 3, 3)), 2, 0, NONE);
    }

    static void promise20_today() {
        LeastNeed x = onDay(1, plain(9));
        x.person(MOODY, 0, 2, 0, 0, 0);
        x.person(PLAIN, 0, 4, 0, 0, 0);
        wears(withThing(PLAIN, x), 1, 0, NONE);
    }

    // ---- 21, 22: costs, few

    /** Five purses of person 0, which a miller has who asks 21 for each. */
    private static LeastNeed fiveAtTheMill() {
        LeastNeed x = new LeastNeed();
        x.person(PLAIN, 0, 9, 9, 9, 9);
        x.person(MILLER, 0, 9, 9, 9, 9);
        for (int t = 0; t < 5; t++) x.thing(PLAIN, PURSE, 0);
        for (int t = 0; t < 5; t++) x.lose(t);
        x.day(1);
        return x;
    }

    static void promise21_nothingThere() {
        asked("nobody", LeastNeed::new, x -> x.costs(), 0);
        asked("no things", () -> plain(1, 2), x -> x.costs(), 0);
    }

    static void promise21_ownersAskNothing() { asked("at home", () -> withThing(PLAIN, plain(1, 2)), x -> x.costs(), 0); }

    static void promise21_fiveAtTheMill() { asked("5 times 21", ComesEdgesTest::fiveAtTheMill, x -> x.costs(), 105); }

    static void promise21_whatIsLostIsNotAskedBack() {
        LeastNeed x = fiveAtTheMill();
        x.lose(4);
        due("lost by the miller", x.costs(), 84);
        x.person(PLAIN, 0, 9, 9, 9, 9);
        x.day(1);
        due("on the boundary", x.about(4, 4), BOUNDARY);
        due("not asked back", x.costs(), 84);
    }

    static void promise21_oneGivenBackIsNotAskedBack() {
        LeastNeed x = fiveAtTheMill();
        due("asked", x.back(0), 21);
        due("four", x.costs(), 84);
        for (int t = 1; t < 5; t++) x.back(t);
        due("none", x.costs(), 0);
    }

    static void promise22_nothingThere() {
        asked("nobody, 0", LeastNeed::new, x -> x.few(0), 0);
        asked("nobody, 200", LeastNeed::new, x -> x.few(200), 0);
    }

    static void promise22_exactlyEnoughAndOneLess() {
        int[][] due = {{0, 0}, {20, 0}, {21, 1}, {41, 1}, {42, 2}, {62, 2}, {63, 3}, {83, 3}, {84, 4}, {104, 4}, {105, 5}, {200, 5}};
        for (int[] d : due) asked("for " + d[0], ComesEdgesTest::fiveAtTheMill, x -> x.few(d[0]), d[1]);
    }

    static void promise22_forNothing() {
        LeastNeed x = plain(9, 9);
        x.person(NUN, 0, 9, 9, 9, 9);
        for (int t = 0; t < 5; t++) x.thing(PLAIN, SIGHT, t % 2);
        for (int t = 0; t < 5; t++) x.lose(t);
        x.day(1);
        due("all five are the nun's", x.of(2, 3), 5);
        due("costs", x.costs(), 0);
        due("for 0", x.few(0), 5);
    }

    static void promise22_theCheapOnesFirst() {
        LeastNeed x = fiveAtTheMill();
        x.person(NUN, 0, 0, 0, 0, 0);
        x.coat(1, 9);
        for (int t = 3; t < 5; t++) x.lose(t);
        x.day(1);
        due("plain 9, nun 0: two are the nun's", x.of(2, 3), 2);
        due("for 0", x.few(0), 2);
        due("for 20", x.few(20), 2);
        due("for 21", x.few(21), 3);
        due("costs", x.costs(), 63);
    }

    static void promise22_homeLostAndLyingDoNotCount() {
        LeastNeed x = fiveAtTheMill();
        x.back(0);
        x.lose(1);
        due("three", x.few(200), 3);
    }

    // ---- 23: loser

    static void promise23_alone() { asked("nobody", () -> withThing(PLAIN, plain(1)), x -> x.loser(0, 0), 0); }

    static void promise23_allOthers() {
        LeastNeed x = withThing(PLAIN, plain(9, 8, 7, 6, 5, 4, 3));
        due("to the least", x.loser(0, 6), 63);
        due("to the next", x.loser(0, 5), 64);
        for (int q = 0; q < 5; q++) due("to " + q, x.loser(0, q), 0);
        LeastNeed y = withThing(PLAIN, plain(3, 4, 5, 6, 7, 8, 9));
        due("to the first", y.loser(0, 0), 126);
        due("to the second", y.loser(0, 1), 1);
    }

    static void promise23_fromLikeOnesToTheOther() {
        LeastNeed x = withThing(PLAIN, plain(9, 4, 4));
        due("to 1 from 2 alone: from 0 it lies", x.loser(0, 1), 4);
        due("to 2 from 1 alone", x.loser(0, 2), 2);
        LeastNeed y = withThing(TWIN, plain(9, 4, 4));
        due("twin: to 1 from 0 and 2", y.loser(0, 1), 5);
        due("twin: to 2 from 1", y.loser(0, 2), 2);
    }

    static void promise23_asFarAsItComes() {
        LeastNeed x = withThing(ALIVE, housed(new int[] {0, 6, 12, 13, 19}, 9, 8, 0, 7, 6));
        due("to 12 from 6, 13: from 0 and 19 too far", x.loser(0, 2), 10);
        due("to 6 from 0 alone", x.loser(0, 1), 1);
        due("to 13 from 12 and 19", x.loser(0, 3), 20);
    }

    static void promise23_whoeverHasItOrLostIt() {
        LeastNeed x = lost(withThing(PLAIN, plain(9, 4, 5)));
        due("to 1 from 0 and 2", x.loser(0, 1), 5);
        x.day(1);
        due("had by 1: the same", x.loser(0, 1), 5);
    }

    static void promise23_today() {
        LeastNeed x = byTurns();
        due("even: to 1", x.loser(0, 1), 5);
        due("even: to 2", x.loser(0, 2), 2);
        x.day(1);
        due("odd: to 1", x.loser(0, 1), 4);
        due("odd: to 2", x.loser(0, 2), 3);
    }

    public static void main(String[] args) {
        run(ComesEdgesTest.class, promises(15, 23));
    }
}
