/** Promises 1 to 6: a new object, an empty valley, people and things up to the last one, the text up to its last byte. */
public final class ValleyEdgesTest extends Edges {
    // ---- 1: a new object

    static void promise1_nobodyAndNothingIsThere() {
        LeastNeed x = new LeastNeed();
        for (int what = 0; what < 9; what++) due("count " + what, x.count(what), 0);
    }

    static void promise1_theFractionIsZeroByOne() {
        LeastNeed x = new LeastNeed();
        due("above", x.part(0), 0);
        due("below", x.part(1), 1);
    }

    static void promise1_nothingMayBeUndone() { no("undo", LeastNeed::new, x -> x.undo()); }

    static void promise1_noImageIsKept() {
        no("image 0", LeastNeed::new, x -> x.from(0));
        no("image 1", LeastNeed::new, x -> x.from(1));
    }

    static void promise1_theTextIsEmpty() {
        due("it had", new LeastNeed().clear(), 0);
        due("its first byte", new LeastNeed().type('v'), 1);
        due("it ends too early", new LeastNeed().read(), -10);
    }

    static void promise1_nothingWasRefused() {
        LeastNeed x = new LeastNeed();
        for (int what = 0; what < 3; what++) due("STATUS " + what, x.status(what), 0);
    }

    static void promise1_theFirstDayIsAnEvenOne() {
        LeastNeed x = new LeastNeed();
        x.person(MOODY, 0, 4, 0, 0, 0);
        due("moody on day 0", x.shows(0, SIGHT), 4);
    }

    static void promise1_objectsStandApart() {
        LeastNeed other = lived();
        other.image(0);
        other.image(1);
        LeastNeed x = new LeastNeed();
        due("alike to another new one", allOf(x).equals(allOf(new LeastNeed())) ? 1 : 0, 1);
        due("the other is as it was", allOf(other).size() > 30 ? 1 : 0, 1);
    }

    static void promise1_theConstants() {
        due("NONE", LeastNeed.NONE, -1);
        due("BAD", LeastNeed.BAD, -2);
        due("NO", LeastNeed.NO, -3);
        due("FULL", LeastNeed.FULL, -4);
    }

    static void promise1_usedForAll512Calls() {
        LeastNeed x = plain(1, 2);
        x.thing(PLAIN, SIGHT, 0);
        for (int i = 0; i < 250; i++) {
            due("call " + (4 + 2 * i), x.coat(1, (i + 1) % 10), i % 10);
            due("call " + (5 + 2 * i), x.day(1), 0);
        }
        for (int i = 7; i >= 0; i--) due("call " + (511 - i), x.undo(), 246 + i / 2);
        due("the last one", x.count(2), 246);
    }

    // ---- 2: valley

    static void promise2_nobodyWasThere() {
        asked("of a new one", LeastNeed::new, x -> x.valley(), 0);
        LeastNeed x = lived();
        x.valley();
        due("once more", x.valley(), 0);
    }

    static void promise2_sevenWereThere() { due("had", lived().valley(), 7); }

    static void promise2_allAsAtFirst() {
        LeastNeed x = lived();
        x.valley();
        for (int what = 0; what < 8; what++) due("count " + what, x.count(what), 0);
        for (int p = 0; p < 7; p++) due("person " + p + " is not there", x.of(p, 0), BAD);
        for (int t = 0; t < 5; t++) due("thing " + t + " is not there", x.about(t, 0), BAD);
    }

    static void promise2_whoComesThenIsANewOne() {
        LeastNeed x = lived();
        x.valley();
        due("first", x.person(NUN, 19, 9, 8, 7, 6), 0);
        due("no coat, though the first one before wore 9", x.of(0, 2), 0);
        due("thing", x.thing(SHY, COURAGE, 0), 0);
        due("had, though the first one before was lost", x.about(0, 4), HAD);
        due("by its owner", x.about(0, 3), 0);
        due("no notes", x.is(0), 63);
        due("no comings", x.kinds(0), 63);
    }

    static void promise2_nothingToUndo() {
        LeastNeed x = lived();
        x.valley();
        due("undo", x.undo(), NO);
    }

    static void promise2_imagesStay() {
        LeastNeed x = plain(1, 2);
        x.image(0);
        x.valley();
        x.image(1);
        x.person(PLAIN, 0, 0, 0, 0, 0);
        x.valley();
        due("image 0", x.from(0), 1);
        due("two people", x.count(0), 2);
        due("image 1", x.from(1), 1);
        due("nobody", x.count(0), 0);
    }

    static void promise2_theTextStays() {
        LeastNeed x = small();
        x.valley();
        due("bytes", x.count(8), 34);
        due("items", x.read(), 3);
    }

    static void promise2_theFractionStays() {
        LeastNeed x = small();
        x.odds(0, 0, 1, 3);
        x.valley();
        due("above", x.part(0), 7);
        due("below", x.part(1), 10);
    }

    static void promise2_statusStays() {
        LeastNeed x = lived();
        int[] before = {x.status(0), x.status(1), x.status(2)};
        x.valley();
        for (int i = 0; i < 3; i++) due("STATUS " + i, x.status(i), before[i]);
        due("one of them is not none", before[0] > 0 ? 1 : 0, 1);
    }

    // ---- 3: person

    static void promise3_numbersAre0To6() {
        LeastNeed x = new LeastNeed();
        for (int p = 0; p < 7; p++) {
            due("number", x.person(PLAIN, p, 0, 0, 0, 0), p);
            due("people", x.count(0), p + 1);
        }
    }

    static void promise3_theEighthIsFull() {
        full("of seven plain ones", () -> plain(1, 2, 3, 4, 5, 6, 7), x -> x.person(PLAIN, 0, 0, 0, 0, 0));
        full("of those who lived", Edges::lived, x -> x.person(NUN, 19, 9, 9, 9, 9));
    }

    static void promise3_badAheadOfFull() {
        bad("kind", Edges::lived, x -> x.person(6, 0, 0, 0, 0, 0));
        bad("house", Edges::lived, x -> x.person(0, 20, 0, 0, 0, 0));
        bad("the last need", Edges::lived, x -> x.person(0, 0, 0, 0, 0, 10));
    }

    static void promise3_theLeastOfAll() {
        LeastNeed x = new LeastNeed();
        x.person(PLAIN, 0, 0, 0, 0, 0);
        for (int what = 0; what < 8; what++) due("of " + what, x.of(0, what), 0);
    }

    static void promise3_theGreatestOfAll() {
        LeastNeed x = new LeastNeed();
        x.person(NUN, 19, 9, 9, 9, 9);
        int[] told = {NUN, 19, 0, 0, 9, 9, 9, 9};
        for (int what = 0; what < 8; what++) due("of " + what, x.of(0, what), told[what]);
    }

    static void promise3_needsOfSortsInTheirOrder() {
        LeastNeed x = plain(1, 2, 3, 4, 5, 6);
        x.person(PLAIN, 7, 9, 0, 4, 1);
        int[] needs = {9, 0, 4, 1};
        for (int s = 0; s < 4; s++) {
            due("need " + s, x.of(6, 4 + s), needs[s]);
            due("need before " + s, x.of(5, 4 + s), s == 0 ? 6 : 0);
        }
    }

    static void promise3_noCoatAtFirst() {
        LeastNeed x = plain(1);
        x.coat(0, 9);
        x.person(PLAIN, 0, 0, 0, 0, 0);
        due("coat", x.of(1, 2), 0);
        due("the other's stays", x.of(0, 2), 9);
    }

    static void promise3_comesOnAnyDay() {
        LeastNeed x = onDay(9999, plain(1));
        due("number", x.person(MOODY, 0, 3, 0, 0, 0), 1);
        due("shows on the odd last day", x.shows(1, SIGHT), 5);
        due("the day stays", x.count(2), 9999);
    }

    // ---- 4: thing

    static void promise4_numbersAre0To4() {
        LeastNeed x = plain(1);
        for (int t = 0; t < 5; t++) {
            due("number", x.thing(PLAIN, SIGHT, 0), t);
            due("things", x.count(1), t + 1);
        }
    }

    static void promise4_theSixthIsFull() {
        full("kind, sort, owner 0", Edges::lived, x -> x.thing(0, 0, 0));
        full("kind, sort, owner greatest", Edges::lived, x -> x.thing(5, 3, 6));
    }

    static void promise4_badAheadOfFull() {
        bad("kind", Edges::lived, x -> x.thing(6, 0, 0));
        bad("sort", Edges::lived, x -> x.thing(0, 4, 0));
        bad("owner", Edges::lived, x -> x.thing(0, 0, 7));
    }

    static void promise4_nobodyThereToOwnIt() {
        bad("owner 0", LeastNeed::new, x -> x.thing(0, 0, 0));
        bad("owner none", LeastNeed::new, x -> x.thing(0, 0, NONE));
    }

    static void promise4_theOwnerHasItAtFirst() {
        LeastNeed x = plain(1, 2, 3);
        x.thing(SHY, COURAGE, 2);
        int[] told = {SHY, COURAGE, 2, 2, HAD};
        for (int what = 0; what < 5; what++) due("about " + what, x.about(0, what), told[what]);
        due("had by the owner", x.of(2, 3), 1);
    }

    static void promise4_theLeastOfAll() {
        LeastNeed x = withThing(PLAIN, plain(1));
        for (int what = 0; what < 5; what++) due("about " + what, x.about(0, what), 0);
    }

    // ---- 5: type

    static void promise5_bytes0And127() {
        LeastNeed x = new LeastNeed();
        due("0", x.type(0), 1);
        due("127", x.type(127), 2);
        due("both are kept", x.count(8), 2);
    }

    static void promise5_the150thIsTheLast() {
        LeastNeed x = new LeastNeed();
        for (int i = 1; i <= 150; i++) due("byte", x.type(i % 128), i);
        due("bytes", x.count(8), 150);
    }

    static void promise5_the151stIsFull() {
        full("a blank", () -> blanks(150), x -> x.type(' '));
        full("0", () -> blanks(150), x -> x.type(0));
        full("127", () -> blanks(150), x -> x.type(127));
    }

    static void promise5_badAheadOfFull() {
        bad("below", () -> blanks(150), x -> x.type(-1));
        bad("above", () -> blanks(150), x -> x.type(128));
    }

    static void promise5_theFullTextIsReadWithoutTheOneRefused() {
        LeastNeed x = new LeastNeed();
        write(x, "valley".concat(" ".repeat(143)).concat(";"));
        due("full", x.type('x'), FULL);
        due("read", x.read(), 1);
    }

    static void promise5_behindClearFromOneOn() {
        LeastNeed x = blanks(150);
        x.clear();
        due("first", x.type('v'), 1);
    }

    private static LeastNeed blanks(int n) {
        LeastNeed x = new LeastNeed();
        for (int i = 0; i < n; i++) x.type(' ');
        return x;
    }

    // ---- 6: clear

    static void promise6_theEmptyTextHadNone() { asked("clear", LeastNeed::new, x -> x.clear(), 0); }

    static void promise6_theFullTextHad150() {
        LeastNeed x = blanks(150);
        due("clear", x.clear(), 150);
        due("bytes", x.count(8), 0);
        due("again", x.clear(), 0);
    }

    static void promise6_nothingOfTheOldTextIsReadAgain() {
        LeastNeed x = new LeastNeed();
        write(x, "valley;days 9;");
        x.clear();
        due("empty", x.read(), -10);
        for (char c : "valley".toCharArray()) x.type(c);
        due("shorter", x.read(), -16);
    }

    static void promise6_allElseStays() {
        LeastNeed x = small();
        LeastNeed other = small();
        x.clear();
        for (int what = 0; what < 8; what++) due("count " + what, x.count(what), other.count(what));
        due("above", x.part(0), other.part(0));
        due("undo", x.undo(), other.undo());
    }

    public static void main(String[] args) {
        run(ValleyEdgesTest.class, promises(1, 6));
    }
}
