/**
 * Promise 7: which text is read, and the place of the fault of one that is not.
 * In the texts of the faults a ^ is put ahead of that place (and not typed).
 */
public final class TextEdgesTest extends Edges {
    private static final String P = "person 0 0 0 0 0 0;";
    private static final String SHORT = "person0 0 0 0 0 0;";

    private static void fault(String marked) {
        int place = marked.indexOf('^');
        String text = marked.substring(0, place).concat(marked.substring(place + 1));
        faultAt(text, place);
    }

    /** All stays, STATUS too: a fault is no refusal as BAD, NO or FULL. */
    private static void faultAt(String text, int place) {
        Made made = () -> {
            LeastNeed x = plain(2, 1);
            x.thing(PLAIN, SIGHT, 0);
            x.image(0);
            x.coat(1, 3);
            x.lose(0);
            x.note(0, 1, 0, 0, 0, 1);
            write(x, text);
            return x;
        };
        asked("\"" + text + "\"", made, x -> x.read(), -10 - place);
    }

    private static LeastNeed told(String text, int items) {
        LeastNeed x = plain(2, 1);
        x.coat(1, 9);
        due("items of \"" + text + "\"", readText(x, text), items);
        return x;
    }

    // ---- it ends too early

    static void promise7_theEmptyText() { fault("^"); }

    static void promise7_blanksAlone() {
        fault(" ^");
        faultAt(" ".repeat(150), 150);
    }

    static void promise7_endsBehindTheFirstWord() {
        fault("valley^");
        fault("valley   ^");
        fault("  valley^");
    }

    static void promise7_endsWithinAPerson() {
        String item = "person 1 2 3 4 5 6";
        for (int n = 6; n <= item.length(); n += 2) fault("valley;".concat(item.substring(0, n)).concat("^"));
        for (int n = 6; n <= item.length(); n += 2) fault("valley;".concat(item.substring(0, n)).concat("  ^"));
    }

    static void promise7_endsWithinACoat() {
        fault("valley;coat^");
        fault("valley;" + P + "coat^");
        fault("valley;" + P + "coat 0^");
        fault("valley;" + P + "coat 0 ^");
        fault("valley;" + P + "coat 0 9^");
    }

    static void promise7_endsWithinAThing() {
        fault("valley;thing^");
        fault("valley;thing 5^");
        fault("valley;thing 5 3^");
        fault("valley;" + P + "thing 5 3 0^");
        fault("valley;" + P + "thing 5 3 0 ^");
    }

    static void promise7_endsWithinALoss() {
        fault("valley;lose^");
        fault("valley;" + P + "thing 0 0 0;lose^");
        fault("valley;" + P + "thing 0 0 0;lose 0^");
    }

    static void promise7_endsWithinDays() {
        fault("valley;days^");
        fault("valley;days ^");
        fault("valley;days 99^");
        fault("valley;days 9 ^");
    }

    static void promise7_ofAll150BytesItEndsTooEarly() {
        faultAt("valley;".concat("days99;".repeat(19)).concat("      days"), 150);
        faultAt("valley;".concat("days99;".repeat(19)).concat("    days 9"), 150);
        faultAt("valley;".concat("days99;".repeat(19)).concat("  days 9  "), 150);
    }

    // ---- valley, once, first of all

    static void promise7_valleyAgain() {
        fault("valley;^valley;");
        fault("valley;  ^valley");
        fault("valley;days 1;^valley;");
        fault("valley ^valley;");
    }

    static void promise7_anythingAheadOfValley() {
        fault("^;valley;");
        fault("^1valley;");
        fault("^111valley;");
        fault("^" + P + "valley;");
        fault("^days 1;valley;");
        fault("  ^coat 0 0;");
        fault("^\0valley;");
    }

    static void promise7_somethingElseForValley() {
        fault("^valle;");
        fault("^valleys;");
        fault("^valleyvalley;");
        fault("^alley;");
        fault("^xalley;");
        fault("^valleyz;");
        fault("^valleya;");
        fault("^vallez;");
        fault("^v");
        fault("^Valley;");
    }

    static void promise7_noSemicolonBehindValley() {
        fault("valley ^person 0 0 0 0 0 0;");
        fault("valley ^1;");
        fault("valley^1;");
        fault("valley^.;");
    }

    // ---- words that are none

    static void promise7_aWordThatIsNone() {
        fault("valley;^town;");
        fault("valley;^perso 0 0 0 0 0 0;");
        fault("valley;^persons 0 0 0 0 0 0;");
        fault("valley;^coats 0 0;");
        fault("valley;^coa");
        fault("valley;^thin 0 0 0;");
        fault("valley;^things 0 0 0;");
        fault("valley;^los 0;");
        fault("valley;^loses 0;");
        fault("valley;^day 1;");
        fault("valley;^dayss 1;");
        fault("valley;^a");
        fault("valley;^z;");
        fault("valley;^zerson 0 0 0 0 0 0;");
        fault("valley;^boat 0 0;");
        fault("valley;^whing 0 0 0;");
        fault("valley;^nose 0;");
        fault("valley;^rays 1;");
        fault("valley;^persoz 0 0 0 0 0 0;");
        fault("valley;^dayz 1;");
        fault("valley;^back 0;");
        fault("valley;^plain;");
    }

    static void promise7_aWordWhereNoneCanStand() {
        fault("valley;person ^person 0 0 0 0 0 0;");
        fault("valley;person ^plain 0 0 0 0 0;");
        fault("valley;person 0 0 0 0 0 0 ^days 1;");
        fault("valley;person 0 0 0 0 0 0^days 1;");
        fault("valley;days ^one;");
        fault("valley;days 1^valley;");
        fault("valley;^daysa1;");
    }

    // ---- an 8th person, a 6th thing

    static void promise7_theEighthPersonAtItsWord() {
        String seven = "valley;".concat(SHORT.repeat(7));
        fault(seven + "^person");
        fault(seven + "  ^person ");
        fault(seven + "^person9");
        fault(seven + "^person;");
    }

    static void promise7_theSeventhPersonIsTold() {
        due("people", told("valley;".concat(SHORT.repeat(7)), 8).count(0), 7);
    }

    static void promise7_theSixthThingAtItsWord() {
        String five = "valley;" + SHORT + "thing0 0 0;".repeat(5);
        fault(five + "^thing");
        fault(five + " ^thing 0 0 0;");
        fault(five + "^thing9 9 9;");
        fault(five + "^thing;");
    }

    static void promise7_theFifthThingIsTold() {
        LeastNeed x = told("valley;" + SHORT + "thing0 0 0;".repeat(4) + "thing5 3 0;", 7);
        due("things", x.count(1), 5);
        due("the last one's kind", x.about(4, 0), SHY);
    }

    // ---- figures

    static void promise7_threeFiguresOrMore() {
        fault("valley;person ^000 0 0 0 0 0;");
        fault("valley;person 0 0 0 0 0 ^001;");
        fault("valley;days ^100;");
        fault("valley;days ^001;");
        fault("valley;days ^1000000000000;");
        fault("valley;days^123456");
        fault("valley;days ^010");
    }

    static void promise7_threeFiguresWhereNoNumberCanStand() {
        fault("valley;^100;");
        fault("valley;days 1 ^100;");
    }

    static void promise7_twoFiguresAreOneNumber() {
        LeastNeed x = told("valley;person05 19 09 00 05 01;coat00 07;days10;", 4);
        int[] is = {NUN, 19, 7, 0, 9, 0, 5, 1};
        for (int what = 0; what < 8; what++) due("of " + what, x.of(0, what), is[what]);
        due("day", x.count(2), 10);
    }

    static void promise7_aNumberWhereNoneCanStand() {
        fault("valley;^1;");
        fault("valley;" + P + "^0 0;");
        fault("valley;person 0 0 0 0 0 0 ^0;");
        fault("valley;days 5 ^5;");
        fault("valley;" + P + "coat 0 1 ^1;");
        fault("valley;" + P + "thing 0 0 0 ^0;");
        fault("valley;" + P + "thing 0 0 0;lose 0 ^0;");
    }

    static void promise7_tooFewNumbers() {
        fault("valley;person^;");
        fault("valley;person 0 0 0 0 0^;");
        fault("valley;days^;");
        fault("valley;days ^;");
        fault("valley;" + P + "coat 0^;");
        fault("valley;" + P + "thing 0 0^;");
        fault("valley;" + P + "thing 0 0 0;lose^;");
    }

    // ---- numbers as told

    static void promise7_kindOfAPerson() {
        due("5", told("valley;person 5 0 0 0 0 0;", 2).of(0, 0), 5);
        fault("valley;person ^6 0 0 0 0 0;");
        fault("valley;person ^99 0 0 0 0 0;");
        fault("valley;person ^-1 0 0 0 0 0;");
    }

    static void promise7_houseOfAPerson() {
        due("0", told("valley;person 0 0 0 0 0 0;", 2).of(0, 1), 0);
        due("19", told("valley;person 0 19 0 0 0 0;", 2).of(0, 1), 19);
        fault("valley;person 0 ^20 0 0 0 0;");
    }

    static void promise7_needsOfAPerson() {
        LeastNeed x = told("valley;person 0 0 9 9 9 9;person 0 0 6 7 8 9;", 3);
        for (int s = 0; s < 4; s++) due("9", x.of(0, 4 + s), 9);
        for (int s = 0; s < 4; s++) due("in their order", x.of(1, 4 + s), 6 + s);
        fault("valley;person 0 0 ^10 0 0 0;");
        fault("valley;person 0 0 0 ^10 0 0;");
        fault("valley;person 0 0 0 0 ^10 0;");
        fault("valley;person 0 0 0 0 0 ^10;");
    }

    static void promise7_aCoat() {
        LeastNeed x = told("valley;" + P + P + "coat 0 9;coat 1 9;coat 1 0;", 6);
        due("9", x.of(0, 2), 9);
        due("0 behind 9", x.of(1, 2), 0);
        fault("valley;" + P + "coat 0 ^10;");
    }

    static void promise7_kindOfAThing() {
        due("5", told("valley;" + P + "thing 5 0 0;", 3).about(0, 0), 5);
        fault("valley;" + P + "thing ^6 0 0;");
    }

    static void promise7_sortOfAThing() {
        due("3", told("valley;" + P + "thing 0 3 0;", 3).about(0, 1), 3);
        fault("valley;" + P + "thing 0 ^4 0;");
    }

    static void promise7_days1To99() {
        due("1", told("valley;days 1;", 2).count(2), 1);
        due("99", told("valley;days 99;", 2).count(2), 99);
        fault("valley;days ^0;");
        fault("valley;days ^00;");
        fault("valley;days ^100;");
    }

    // ---- who is there, what is there

    static void promise7_aPersonWhoIsNotThereYet() {
        fault("valley;coat ^0 1;");
        fault("valley;" + P + "coat ^1 1;" + P);
        fault("valley;" + P + P + "coat ^2 1;");
        fault("valley;" + P + "coat ^99 1;");
        fault("valley;thing 0 0 ^0;");
        fault("valley;" + P + "thing 0 0 ^1;");
    }

    static void promise7_theLastPersonIsThere() {
        LeastNeed x = told("valley;".concat(SHORT.repeat(6)).concat("coat5 8;thing0 0 5;"), 9);
        due("coat", x.of(5, 2), 8);
        due("owner", x.about(0, 2), 5);
        due("has it", x.about(0, 3), 5);
    }

    static void promise7_aThingThatIsNotThere() {
        fault("valley;lose ^0;");
        fault("valley;" + P + "lose ^0;thing 0 0 0;");
        fault("valley;" + P + "thing 0 0 0;lose ^1;");
        fault("valley;" + P + "thing 0 0 0;lose ^99;");
    }

    static void promise7_theLastThingIsThere() {
        LeastNeed x = told("valley;" + SHORT + "thing0 0 0;".repeat(5) + "lose4;", 8);
        due("lost", x.about(4, 4), LOST);
        due("the others are not", x.count(3), 1);
    }

    static void promise7_aThingThatIsLost() {
        fault("valley;" + P + "thing 0 0 0;lose 0;lose ^0;");
        fault("valley;" + P + "thing 0 0 0;lose 0;lose ^00;");
    }

    static void promise7_aThingOnTheBoundaryIsLostToo() {
        fault("valley;" + P + "thing 0 0 0;lose 0;days 9;lose ^0;");
    }

    static void promise7_aThingThatCameMayBeLostAgain() {
        LeastNeed x = told("valley;" + P + P + "thing 0 0 0;lose 0;days 1;lose 0;", 7);
        due("lost", x.about(0, 4), LOST);
        due("by the other", x.about(0, 3), 1);
        due("it is the first one's", x.about(0, 2), 0);
    }

    // ---- bytes

    static void promise7_aByteThatBeginsNone() {
        for (char c = 0; c < 128; c++) {
            boolean begins = c == ' ' || c == ';' || (c >= '0' && c <= '9') || (c >= 'a' && c <= 'z');
            if (begins) continue;
            LeastNeed x = plain(1);
            due("byte " + (int) c + " behind an item", readText(x, "valley;days 5;" + c), -24);
            due("byte " + (int) c + " behind a number", readText(x, "valley;days 5" + c + ";"), -23);
            due("byte " + (int) c + " for a number", readText(x, "valley;days " + c + ";"), -22);
            due("byte " + (int) c + " first of all", readText(x, c + "valley;"), -10);
            due("byte " + (int) c + " behind a word", readText(x, "valley" + c), -16);
            due("byte " + (int) c + " at last, behind blanks", readText(x, "valley;  " + c), -19);
        }
    }

    static void promise7_aSemicolonWhereNoneCanStand() {
        fault("^;");
        fault("valley;^;");
        fault("valley; ^;days 1;");
        fault("valley;days 1;^;");
    }

    static void promise7_theFirstOfSeveralFaults() {
        fault("valley;days ^0;town;");
        fault("valley;person ^6 20 10 10 10 10;");
        fault("valley;^x 000;");
    }

    // ---- blanks

    static void promise7_noBlanksWhereTheyAreNotNeeded() {
        due("one person", told("valley;person0 0 0 0 0 0;", 2).count(0), 1);
        fault("valley;person^000000;");
        fault("valley;person00 00^;");
    }

    static void promise7_anyBlanksWhereTheyMayStand() {
        LeastNeed x = told("   valley   ;   person   5   19   9   8   7   6   ;   coat   0   9   ;   days   99   ;   ", 4);
        int[] is = {NUN, 19, 9, 0, 9, 8, 7, 6};
        for (int what = 0; what < 8; what++) due("of " + what, x.of(0, what), is[what]);
        due("day", x.count(2), 99);
    }

    static void promise7_blanksWithinATokenMakeTwo() {
        fault("^val ley;");
        fault("valley;^per son 0 0 0 0 0 0;");
        fault("valley;days 1 ^0;");
    }

    // ---- what is read

    static void promise7_theLeastText() {
        LeastNeed x = told("valley;", 1);
        for (int what = 0; what < 8; what++) due("count " + what, x.count(what), 0);
    }

    static void promise7_theFullText() {
        due("150 bytes", told("valley;".concat("days99;".repeat(19)).concat("   days 1;"), 21).count(2), 19 * 99 + 1);
        due("150 bytes, blanks at last", told("valley;".concat("days99;".repeat(19)).concat(" ".repeat(10)), 20).count(2), 19 * 99);
    }

    static void promise7_theMostItems() {
        due("day", told("valley;".concat("days1;".repeat(23)).concat("     "), 24).count(2), 23);
    }

    static void promise7_daysGoByWhereTheyStand() {
        String people = "valley;person0 0 9 0 0 0;person3 0 2 0 0 0;person0 0 3 0 0 0;thing0 0 0;";
        due("lost on day 0: to the moody one", told(people + "lose0;days1;", 7).about(0, 3), 1);
        due("lost on day 1: to the other", told(people + "days1;lose0;days1;", 8).about(0, 3), 2);
        due("a coat ahead of the day", told(people + "coat1 2;lose0;days1;", 8).about(0, 3), 2);
        due("a coat behind it", told(people + "lose0;days1;coat1 2;", 8).about(0, 3), 1);
    }

    static void promise7_aPersonWhoComesLaterDoesNotGetIt() {
        LeastNeed x = told("valley;" + P + "thing 0 0 0;lose 0;days 5;person 0 0 9 0 0 0;", 6);
        due("it lies", x.about(0, 4), BOUNDARY);
        due("the next day it comes", x.day(1), 0);
        due("to that one", x.about(0, 3), 1);
    }

    static void promise7_itTakesThePlaceOfAllThatWasThere() {
        LeastNeed x = lived();
        due("items", readText(x, "valley;person 3 1 2 3 4 5;"), 2);
        int[] counts = {1, 0, 0, 0, 0, 0, 0, 0, 26};
        for (int what = 0; what < 9; what++) due("count " + what, x.count(what), counts[what]);
        due("no coat", x.of(0, 2), 0);
        due("no notes", x.is(0), 63);
    }

    static void promise7_nothingToUndo() {
        LeastNeed x = told("valley;" + P + P + "thing 0 0 0;coat 0 1;lose 0;days 1;lose 0;", 8);
        due("none", x.count(7), 0);
        due("undo", x.undo(), NO);
        due("the coat stays", x.of(0, 2), 1);
    }

    static void promise7_imagesStay() {
        LeastNeed x = plain(1, 2, 3);
        x.image(0);
        readText(x, "valley;");
        due("from 0", x.from(0), 1);
        due("three people", x.count(0), 3);
        due("none is kept by it", x.from(1), NO);
    }

    static void promise7_theTextStays() {
        LeastNeed x = told("valley;days 5;", 2);
        due("bytes", x.count(8), 14);
        x.day(1);
        due("once more", x.read(), 2);
        due("day", x.count(2), 5);
        for (char c : "days 6;".toCharArray()) x.type(c);
        due("with one more item", x.read(), 3);
        due("day then", x.count(2), 11);
    }

    static void promise7_theFractionStays() {
        LeastNeed x = withThing(PLAIN, plain(1, 2));
        x.odds(0, 1, 1, 8);
        readText(x, "valley;");
        due("above", x.part(0), 4);
        due("below", x.part(1), 5);
    }

    static void promise7_statusStays() {
        LeastNeed x = plain(1);
        x.undo();
        x.coat(1, 0);
        readText(x, "valley;" + P);
        due("BAD", x.status(0), 1);
        due("NO", x.status(1), 1);
        due("FULL", x.status(2), 0);
    }

    static void promise7_nothingOfAFaultyTextIsKept() {
        LeastNeed x = plain(1);
        due("fault behind seven good items", readText(x, "valley;" + P + P + "thing 0 0 0;coat 0 9;lose 0;days 3;town;"), -90);
        due("one person as before", x.count(0), 1);
        due("no day", x.count(2), 0);
        due("then a good one", readText(x, "valley;" + P + "thing 0 0 0;"), 3);
        due("one person", x.count(0), 1);
        due("no coat", x.of(0, 2), 0);
        due("had", x.about(0, 4), HAD);
    }

    public static void main(String[] args) {
        run(TextEdgesTest.class, 7);
    }
}
