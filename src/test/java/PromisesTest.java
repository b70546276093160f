/** Each promise of the document by answers worked out by hand: ordinary ones, edges, wrong inputs. */
public final class PromisesTest {
    private static final int NONE = -1, BAD = -2, NO = -3, FULL = -4;
    private static final int PLAIN = 0, RICH = 1, PROUD = 2, MOODY = 3, MILLER = 4, NUN = 5;
    private static final int PAIR = 1, ALIVE = 2, USELESS = 3, TWIN = 4, SHY = 5;
    private static final int MIN = Integer.MIN_VALUE, MAX = Integer.MAX_VALUE;
    private static final Check CHECK = new Check("PromisesTest");

    private static void due(String what, long got, long want) {
        CHECK.due(what, got, want);
    }

    /**
     * One of each kind. What they show of sorts 0 to 3 on day 0:
     * plain 5 1 9 0; rich 4 2 3 1; proud 3 3 3 3; moody 2 0 4 8; miller 4 3 0 2; nun 0 0 0 6.
     */
    private static LeastNeed village() {
        LeastNeed x = new LeastNeed();
        x.person(PLAIN, 0, 5, 1, 9, 0);
        x.person(RICH, 3, 9, 4, 7, 2);
        x.person(PROUD, 6, 3, 3, 3, 3);
        x.person(MOODY, 9, 2, 0, 4, 8);
        x.person(MILLER, 13, 8, 6, 9, 5);
        x.person(NUN, 19, 7, 7, 7, 6);
        return x;
    }

    /** Plain people with these needs of sort 0 (and none of the others), all in house 0. */
    private static LeastNeed plain(int... needs) {
        LeastNeed x = new LeastNeed();
        for (int n : needs) x.person(PLAIN, 0, n, 0, 0, 0);
        return x;
    }

    private static void put(LeastNeed x, String text) {
        x.clear();
        for (int i = 0; i < text.length(); i++) x.type(text.charAt(i));
    }

    private static int readText(LeastNeed x, String text) {
        put(x, text);
        return x.read();
    }

    private static void refused(String what, LeastNeed x, int bad, int no, int full) {
        due(what + " BAD", x.status(0), bad);
        due(what + " NO", x.status(1), no);
        due(what + " FULL", x.status(2), full);
    }

    private static void promise1() {
        LeastNeed x = new LeastNeed();
        for (int what = 0; what < 9; what++) due("1 count " + what, x.count(what), 0);
        due("1 above", x.part(0), 0);
        due("1 below", x.part(1), 1);
        due("1 undo", x.undo(), NO);
        due("1 image", x.from(0), NO);
        due("1 image", x.from(1), NO);
        refused("1", x, 0, 3, 0);
        LeastNeed y = new LeastNeed();
        y.person(PLAIN, 0, 0, 0, 0, 0);
        due("1 objects stand apart", x.count(0), 0);
        due("1 NONE", LeastNeed.NONE, -1);
        due("1 BAD", LeastNeed.BAD, -2);
        due("1 NO", LeastNeed.NO, -3);
        due("1 FULL", LeastNeed.FULL, -4);
    }

    private static void promise2() {
        LeastNeed x = village();
        x.thing(0, 0, 0);
        x.odds(0, 0, 0, 0);
        x.note(0, 0, 0, 0, 0, 0);
        x.came(0, 0, 0, 1);
        x.day(3);
        x.type(65);
        x.image(1);
        x.coat(9, 0);
        due("2 valley", x.valley(), 6);
        for (int what = 0; what < 8; what++) due("2 count " + what, x.count(what), 0);
        due("2 text", x.count(8), 1);
        due("2 fraction", x.part(0), 1);
        refused("2", x, 1, 0, 0);
        due("2 undo", x.undo(), NO);
        due("2 again", x.valley(), 0);
        due("2 image stays", x.from(1), 1);
        due("2 from", x.count(0), 6);
        due("2 from", x.count(7), 1);
        x.valley();
        x.person(MOODY, 1, 2, 3, 4, 5);
        due("2 coat of a new one", x.of(0, 2), 0);
    }

    private static void promise3() {
        LeastNeed x = new LeastNeed();
        due("3 first", x.person(NUN, 19, 9, 0, 5, 1), 0);
        int[] told = {NUN, 19, 0, 0, 9, 0, 5, 1};
        for (int what = 0; what < 8; what++) due("3 of " + what, x.of(0, what), told[what]);
        int[][] bad = {{-1, 0}, {6, 0}, {MIN, 0}, {MAX, 0}, {0, -1}, {0, 20}, {0, MIN}, {0, MAX}};
        for (int[] b : bad) due("3 bad", x.person(b[0], b[1], 0, 0, 0, 0), BAD);
        for (int n : new int[] {-1, 10, MIN, MAX}) {
            due("3 bad a", x.person(0, 0, n, 0, 0, 0), BAD);
            due("3 bad b", x.person(0, 0, 0, n, 0, 0), BAD);
            due("3 bad c", x.person(0, 0, 0, 0, n, 0), BAD);
            due("3 bad d", x.person(0, 0, 0, 0, 0, n), BAD);
        }
        due("3 none of them came", x.count(0), 1);
        for (int i = 1; i < 7; i++) due("3 number", x.person(PLAIN, 0, 0, 0, 0, 0), i);
        due("3 full", x.person(PLAIN, 0, 0, 0, 0, 0), FULL);
        due("3 bad ahead of full", x.person(6, 0, 0, 0, 0, 0), BAD);
        due("3 people", x.count(0), 7);
        refused("3", x, 25, 0, 1);
    }

    private static void promise4() {
        LeastNeed x = village();
        due("4 first", x.thing(SHY, 3, 5), 0);
        int[] told = {SHY, 3, 5, 5, 0};
        for (int what = 0; what < 5; what++) due("4 about " + what, x.about(0, what), told[what]);
        for (int n : new int[] {-1, 6, MIN, MAX}) {
            due("4 bad kind", x.thing(n, 0, 0), BAD);
            due("4 bad sort", x.thing(0, n == 6 ? 4 : n, 0), BAD);
            due("4 bad owner", x.thing(0, 0, n), BAD);
        }
        for (int i = 1; i < 5; i++) due("4 number", x.thing(0, 0, 0), i);
        due("4 full", x.thing(0, 0, 0), FULL);
        due("4 bad ahead of full", x.thing(0, 0, 6), BAD);
        due("4 things", x.count(1), 5);
        refused("4", x, 13, 0, 1);
        due("4 nobody", new LeastNeed().thing(0, 0, 0), BAD);
    }

    private static void promise5() {
        LeastNeed x = new LeastNeed();
        for (int c : new int[] {-1, 128, MIN, MAX}) due("5 bad", x.type(c), BAD);
        due("5 zero", x.type(0), 1);
        due("5 127", x.type(127), 2);
        for (int i = 3; i <= 150; i++) due("5 type", x.type(32), i);
        due("5 full", x.type(32), FULL);
        due("5 bad ahead of full", x.type(128), BAD);
        due("5 bytes", x.count(8), 150);
        refused("5", x, 5, 0, 1);
    }

    private static void promise6() {
        LeastNeed x = new LeastNeed();
        due("6 empty", x.clear(), 0);
        put(x, "valley;");
        due("6 had", x.clear(), 7);
        due("6 now", x.count(8), 0);
        due("6 read", x.read(), -10);
        due("6 type", x.type(118), 1);
    }

    private static final String SEVEN = "valley;person0 0 0 0 0 0;person0 0 0 0 0 0;person0 0 0 0 0 0;"
        + "person0 0 0 0 0 0;person0 0 0 0 0 0;";

    private static void promise7faults() {
        Object[][] faults = {
            {"", 0}, {" ", 1}, {"   ", 3}, {"v", 0}, {"valle", 0}, {"valley", 6}, {"valley ", 7}, {"valleys;", 0},
            {"Valley;", 0}, {"  valley  x;", 10}, {";valley;", 0}, {"1valley;", 0}, {"person 0 0 0 0 0 0;", 0},
            {"valley;valley;", 7}, {"valley;;", 7}, {"valley;5;", 7}, {"valley; 5;", 8}, {"valley valley;", 7},
            {"valley;town;", 7}, {"valley;per", 7}, {"valley;personne 0", 7}, {"valley;person", 13},
            {"valley;person 6 0 0 0 0 0;", 14}, {"valley;person 0 20 0 0 0 0;", 16}, {"valley;person 0 0 10 0 0 0;", 18},
            {"valley;person 0 0 0 10 0 0;", 20}, {"valley;person 0 0 0 0 10 0;", 22}, {"valley;person 0 0 0 0 0 10;", 24},
            {"valley;person 0 0 0 0 0;", 23}, {"valley;person 0 0 0 0 0 0 0;", 26}, {"valley;person 0 0 0 0 0 0", 25},
            {"valley;person 000 0 0 0 0 0;", 14}, {"valley;person 0 1234 0 0 0 0;", 16}, {"valley;person x 0 0 0 0 0;", 14},
            {"valley;person 0 0 0 0 0 00000", 24}, {"valley;person -1 0 0 0 0 0;", 14}, {"valley;person 0,0 0 0 0 0;", 15},
            {"valley;coat 0 1;", 12}, {"valley;person0 0 0 0 0 0;coat 1 1;", 30}, {"valley;person0 0 0 0 0 0;coat 0 10;", 32},
            {"valley;person0 0 0 0 0 0;coat 0;", 31}, {"valley;thing 0 0 0;", 17}, {"valley;thing 6 0 0;", 13},
            {"valley;thing 0 4 0;", 15}, {"valley;lose 0;", 12}, {"valley;days 0;", 12}, {"valley;days 00;", 12},
            {"valley;days 100;", 12}, {"valley;days 5", 13}, {"valley;days ;", 12}, {"valley;days 5 ", 14},
            {"xalley;", 0}, {"valleyz;", 0}, {"zvalley;", 0}, {"valley;person 0 0 0 0", 21}, {"valley;coat", 11},
            {"valley;coat ", 12}, {"valley;person0 0 0 0 0 0;coat 0", 31}, {"valley;person0 0 0 0 0 0;coat 0 1", 33},
            {"valley;thing", 12}, {"valley;thing 0", 14}, {"valley;thing 0 0", 16}, {"valley;lose", 11}, {"valley;days", 11},
            {"valley;person0 0 0 0 0 0;thing 0 0 0", 36}, {"valley;person0 0 0 0 0 0;thing 0 0 0;lose 0", 43},
            {"valley;days 5 5;", 14}, {"valley;days 5;\u0000", 14}, {"valley;days 5;\t", 14}, {"valley;days 5;`", 14},
            {"valley;days 5;{", 14}, {"valley;days 5;/", 14}, {"valley;days 5;:", 14}, {"valley;days 5;@", 14},
            {"valley;person0 0 0 0 0 0;thing 0 0 0;lose 0;lose 0;", 49},
            {"valley;person0 0 0 0 0 0;thing 0 0 0;lose 0;days 9;lose 0;", 56},
            {"valley;person0 0 0 0 0 0;thing 0 0 0;lose 1;", 42},
            {SEVEN + "person0 0 0 0 0 0;person0 0 0 0 0 0;person", 133},
            {"valley;person0 0 0 0 0 0;thing0 0 0;thing0 0 0;thing0 0 0;thing0 0 0;thing0 0 0;thing", 80},
        };
        for (Object[] f : faults) {
            LeastNeed x = plain(1, 2);
            due("7 fault of \"" + f[0] + "\"", readText(x, (String) f[0]), -10 - (Integer) f[1]);
            due("7 all stays", x.count(0), 2);
            due("7 the text stays", x.count(8), ((String) f[0]).length());
            refused("7 a fault is none of these", x, 0, 0, 0);
        }
    }

    private static void promise7() {
        promise7faults();
        String filled = "valley;" + "days99;".repeat(19);
        due("7 a full text", readText(plain(1), filled + "         ;"), -159);
        due("7 a full text of blanks", readText(plain(1), filled + "          "), 20);
        due("7 a full text, ending in a word", readText(plain(1), filled + "      days"), -160);
        due("7 a full text, ending in a wrong word", readText(plain(1), filled + "         x"), -159);
        due("7 a full text, ending in a number", readText(plain(1), filled + "    days 9"), -160);
        due("7 a full text, ending in an item", readText(plain(1), filled + "   days 9;"), 21);
        LeastNeed x = plain(1, 2);
        x.note(0, 0, 0, 0, 0, 0);
        x.coat(0, 3);
        due("7 least", readText(x, "valley;"), 1);
        for (int what = 0; what < 8; what++) due("7 count " + what, x.count(what), 0);
        due("7 blanks", readText(x, "   valley  ;person5  19 9 0 5 1  ;days 7; "), 3);
        int[] told = {NUN, 19, 0, 0, 9, 0, 5, 1};
        for (int what = 0; what < 8; what++) due("7 of " + what, x.of(0, what), told[what]);
        due("7 day", x.count(2), 7);
        due("7 undo", x.undo(), NO);
        due("7 two figures", readText(x, "valley;person05 09 09 00 05 01;coat00 07;days07;"), 4);
        due("7 coat", x.of(0, 2), 7);
        due("7 all kinds of items", readText(x, "valley;person 0 0 5 0 0 0;person 3 1 4 0 0 0;person 0 2 7 0 0 0;"
            + "thing 0 0 1;lose 0;days 1;lose 0;days 1;lose 0;coat 1 9;thing 4 3 2;"), 12);
        due("7 lost by", x.about(0, 3), 1);
        due("7 lost", x.about(0, 4), 1);
        due("7 owner", x.about(0, 2), 1);
        due("7 today", x.count(2), 2);
        due("7 not undone", x.count(7), 0);
        due("7 coat put on", x.of(1, 2), 9);
        due("7 the day counts: on the odd one two are alike", readText(x, "valley;person 0 0 5 0 0 0;person 3 1 4 0 0 0;"
            + "person 0 2 6 0 0 0;thing 0 0 1;lose 0;days 1;lose 0;days 1;lose 0;"), -119);
        x.image(0);
        x.odds(1, 2, 0, 0);
        x.coat(9, 9);
        x.read();
        due("7 image stays", x.from(0), 1);
        due("7 fraction stays", x.part(0), 1);
        due("7 status stays", x.status(0), 1);
        due("7 edges", readText(x, "valley;person 5 19 9 9 9 9;person 0 0 0 0 0 0;coat 1 9;coat 1 0;thing 5 3 1;thing 0 2 0;"
            + "thing 2 0 1;lose 2;days 1;lose 1;"), 11);
        int[][] things = {{5, 3, 1, 1, 0}, {0, 2, 0, 0, 1}, {2, 0, 1, 1, 2}};
        for (int t = 0; t < 3; t++) for (int w = 0; w < 5; w++) due("7 about " + t + " " + w, x.about(t, w), things[t][w]);
        due("7 coat taken off", x.of(1, 2), 0);
        due("7 lies on the boundary", readText(x, "valley;person 0 0 5 0 0 0;thing 0 0 0;lose 0;days 99;"), 5);
        due("7 lies", x.about(0, 4), 2);
        due("7 day", x.count(2), 99);
    }

    private static void promise8() {
        LeastNeed x = village();
        due("8 nothing", x.lose(0), BAD);
        x.thing(0, 0, 4);
        due("8 lose", x.lose(0), 4);
        due("8 lost", x.about(0, 4), 1);
        due("8 by", x.about(0, 3), 4);
        due("8 again", x.lose(0), NO);
        for (int t : new int[] {-1, 1, MIN, MAX}) due("8 bad", x.lose(t), BAD);
        due("8 undoable", x.count(7), 1);
        x.day(1);
        due("8 who has it", x.lose(0), 5);
        refused("8", x, 5, 1, 0);
        LeastNeed y = plain(1);
        y.thing(0, 0, 0);
        y.lose(0);
        y.day(1);
        due("8 on the boundary", y.lose(0), NO);
    }

    private static void promise9() {
        int[][] asked = {{PLAIN, 4, 5}, {PLAIN, 9, 0}, {RICH, 4, 14}, {RICH, 9, 10}, {PROUD, 4, 5}, {MOODY, 4, 3},
            {MILLER, 4, 17}, {NUN, 0, 0}};
        for (int[] a : asked) {
            LeastNeed x = new LeastNeed();
            x.person(PLAIN, 0, 9, 9, 9, 9);
            x.person(a[0], 0, a[1], 0, 0, 0);
            x.thing(0, 0, 0);
            due("9 has it", x.back(0), NO);
            x.lose(0);
            due("9 lost", x.back(0), NO);
            x.day(1);
            due("9 came", x.about(0, 3), 1);
            due("9 asked", x.back(0), a[2]);
            due("9 owner has it", x.about(0, 3), 0);
            due("9 had", x.about(0, 4), 0);
            due("9 undoable", x.count(7), 3);
            due("9 undo", x.undo(), 1);
            due("9 undone", x.about(0, 3), 1);
            refused("9", x, 0, 2, 0);
        }
        LeastNeed x = village();
        x.thing(0, 2, 0);
        x.lose(0);
        x.day(1);
        due("9 boundary", x.back(0), NO);
        for (int t : new int[] {-1, 1, MIN, MAX}) due("9 bad", x.back(t), BAD);
        LeastNeed y = new LeastNeed();
        y.person(PLAIN, 0, 0, 0, 9, 0);
        y.person(MILLER, 0, 0, 0, 9, 0);
        y.thing(0, 2, 0);
        y.lose(0);
        y.day(1);
        due("9 the miller's purse", y.back(0), 21);
        LeastNeed z = plain(0, 0);
        z.coat(1, 9);
        z.thing(0, 0, 0);
        z.lose(0);
        z.day(1);
        z.person(PLAIN, 0, 1, 0, 0, 0);
        due("9 never below 0", z.back(0), 0);
        z.coat(1, 0);
        z.lose(0);
        z.day(1);
        z.coat(1, 9);
        z.coat(1, 8);
        due("9 by today's coat", z.back(0), 1);
    }

    private static void promise10() {
        LeastNeed x = plain(1, 2);
        due("10 first", x.coat(1, 9), 0);
        due("10 second", x.coat(1, 4), 9);
        due("10 now", x.of(1, 2), 4);
        due("10 other", x.of(0, 2), 0);
        for (int n : new int[] {-1, 10, MIN, MAX}) {
            due("10 bad coat", x.coat(0, n), BAD);
            due("10 bad person", x.coat(n == 10 ? 2 : n, 0), BAD);
        }
        due("10 the same once more", x.coat(1, 4), 4);
        due("10 undoable", x.count(7), 3);
        refused("10", x, 8, 0, 0);
    }

    private static void promise11() {
        LeastNeed x = plain(3, 1, 1, 2);
        x.thing(0, 0, 0);
        x.thing(0, 0, 1);
        for (int n : new int[] {0, -1, 100, MIN, MAX}) due("11 bad", x.day(n), BAD);
        x.lose(0);
        x.lose(1);
        due("11 two like it", x.day(1), 1);
        due("11 boundary", x.about(0, 4), 2);
        due("11 still by", x.about(0, 3), 0);
        due("11 came", x.about(1, 3), 2);
        due("11 had", x.about(1, 4), 0);
        x.coat(1, 1);
        due("11 from the boundary", x.day(99), 0);
        due("11 came", x.about(0, 3), 2);
        due("11 day", x.count(2), 100);
        refused("11", x, 5, 0, 0);
        LeastNeed y = new LeastNeed();
        y.person(PLAIN, 0, 9, 0, 0, 0);
        y.person(PLAIN, 0, 3, 0, 0, 0);
        y.person(MOODY, 0, 2, 0, 0, 0);
        y.thing(0, 0, 0);
        y.day(1);
        y.lose(0);
        y.day(2);
        due("11 by what is shown on the first of the days", y.about(0, 3), 1);
        for (int i = 0; i < 99; i++) y.day(99);
        due("11 near the end", y.count(2), 9804);
        y.day(99);
        y.day(95);
        due("11 9998", y.count(2), 9998);
        due("11 one goes by", y.day(5), 0);
        due("11 the last", y.count(2), 9999);
        y.lose(0);
        due("11 none goes by", y.day(9), 0);
        due("11 still lost", y.about(0, 4), 1);
        due("11 still the last", y.count(2), 9999);
        due("11 it may be undone", y.count(7), 8);
        due("11 undo", y.undo(), 9999);
        due("11 undo the loss", y.undo(), 9999);
        due("11 undo the day", y.undo(), 9998);
    }

    private static void promise12() {
        LeastNeed x = village();
        due("12 none", x.undo(), NO);
        x.thing(0, 0, 0);
        x.coat(0, 4);
        x.lose(0);
        x.day(5);
        due("12 came", x.about(0, 3), 5);
        x.note(0, 0, 0, 0, 0, 0);
        x.back(0);
        due("12 the giving back", x.undo(), 5);
        due("12 has it", x.about(0, 3), 5);
        due("12 the days", x.undo(), 0);
        due("12 lost", x.about(0, 4), 1);
        due("12 lost by", x.about(0, 3), 0);
        due("12 the loss", x.undo(), 0);
        due("12 had", x.about(0, 4), 0);
        due("12 the coat is on", x.of(0, 2), 4);
        due("12 the coat", x.undo(), 0);
        due("12 the coat is off", x.of(0, 2), 0);
        due("12 no more", x.undo(), NO);
        due("12 notes stay", x.count(5), 1);
        severalUndone();
        for (int c = 1; c <= 9; c++) x.coat(1, c);
        due("12 eight", x.count(7), 8);
        for (int i = 0; i < 8; i++) due("12 back", x.undo(), 0);
        due("12 eight back", x.of(1, 2), 1);
        due("12 not nine", x.undo(), NO);
        x.coat(0, 1);
        x.person(9, 0, 0, 0, 0, 0);
        x.thing(9, 0, 0);
        due("12 nobody came", x.count(7), 1);
        x.thing(0, 0, 0);
        due("12 behind a thing", x.undo(), NO);
        x.coat(0, 1);
        x.person(PLAIN, 0, 0, 0, 0, 0);
        due("12 behind a person", x.undo(), NO);
        refused("12", x, 2, 5, 0);
    }

    private static void severalUndone() {
        LeastNeed x = village();
        for (int t = 0; t < 5; t++) x.thing(t == 4 ? SHY : PLAIN, t % 4, t);
        for (int t = 0; t < 5; t++) x.lose(t);
        for (int p = 1; p < 3; p++) x.coat(p, p + 3);
        due("12 legs, purse and the shy one lie", x.day(1), 3);
        due("12 sight came to the nun", x.about(0, 3), 5);
        due("12 the purse lies", x.about(2, 4), 2);
        due("12 courage came to the plain one", x.about(3, 3), 0);
        x.coat(2, 9);
        due("12 the coat", x.undo(), 1);
        due("12 the days", x.undo(), 0);
        for (int t = 0; t < 5; t++) {
            due("12 lost by " + t, x.about(t, 3), t);
            due("12 lost " + t, x.about(t, 4), 1);
        }
        due("12 coats stay", x.of(1, 2) * 10 + x.of(2, 2), 45);
        for (int i = 0; i < 3; i++) x.undo();
        due("12 one is lost no more", x.about(4, 4), 0);
        due("12 the others are", x.count(3), 4);
        due("12 no coats", x.of(1, 2) + x.of(2, 2), 0);
    }

    private static void promise13() {
        LeastNeed x = village();
        x.thing(0, 0, 1);
        x.thing(0, 0, 1);
        x.coat(1, 6);
        int[] told = {RICH, 3, 6, 2, 9, 4, 7, 2};
        for (int what = 0; what < 8; what++) due("13 of " + what, x.of(1, what), told[what]);
        x.lose(0);
        due("13 lost is not had", x.of(1, 3), 1);
        x.day(1);
        due("13 had by the nun", x.of(5, 3), 1);
        for (int n : new int[] {-1, 8, MIN, MAX}) {
            due("13 bad what", x.of(0, n), BAD);
            due("13 bad person", x.of(n == 8 ? 6 : n, 0), BAD);
        }
        refused("13", x, 8, 0, 0);
    }

    private static void promise14() {
        LeastNeed x = village();
        x.thing(PAIR, 2, 1);
        int[] told = {PAIR, 2, 1, 1, 0};
        for (int what = 0; what < 5; what++) due("14 about " + what, x.about(0, what), told[what]);
        x.lose(0);
        due("14 lost", x.about(0, 4), 1);
        x.day(1);
        due("14 the miller's and the nun's: 2, 6", x.about(0, 3), 4);
        due("14 owner", x.about(0, 2), 1);
        for (int n : new int[] {-1, 5, MIN, MAX}) {
            due("14 bad what", x.about(0, n), BAD);
            due("14 bad thing", x.about(n == 5 ? 1 : n, 0), BAD);
        }
        refused("14", x, 8, 0, 0);
    }

    private static void promise15() {
        LeastNeed x = village();
        int[][] first = {{5, 1, 9, 0}, {4, 2, 3, 1}, {3, 3, 3, 3}, {2, 0, 4, 8}, {4, 3, 0, 2}, {0, 0, 0, 6}};
        int[][] coats = {{8, 4, 12, 3}, {6, 3, 5, 2}, {3, 3, 3, 3}, {7, 5, 9, 13}, {5, 4, 0, 4}, {0, 0, 0, 6}};
        for (int p = 0; p < 6; p++) for (int s = 0; s < 4; s++) due("15 " + p + " " + s, x.shows(p, s), first[p][s]);
        x.day(1);
        for (int p = 0; p < 6; p++) x.coat(p, 3);
        for (int p = 0; p < 6; p++) for (int s = 0; s < 4; s++) due("15 odd " + p + " " + s, x.shows(p, s), coats[p][s]);
        x.day(1);
        due("15 even", x.shows(3, 0), 5);
        for (int n : new int[] {-1, 4, MIN, MAX}) {
            due("15 bad sort", x.shows(0, n), BAD);
            due("15 bad person", x.shows(n == 4 ? 6 : n, 0), BAD);
        }
        refused("15", x, 8, 0, 0);
    }

    private static void promise16() {
        LeastNeed x = village();
        x.thing(PLAIN, 0, 5);
        due("16 plain: moody 2", x.comes(0), 3);
        x.thing(PAIR, 0, 5);
        due("16 pair: plain 6, rich 6, proud 6, moody 2", x.comes(1), 3);
        x.thing(ALIVE, 0, 0);
        due("16 alive: rich 4, proud 3", x.comes(2), 2);
        x.thing(USELESS, 0, 5);
        due("16 useless: plain 5", x.comes(3), 0);
        x.thing(SHY, 0, 3);
        due("16 shy of house 9: rich 4 and 6, proud 3 and 3, miller 4 and 4", x.comes(4), 2);
        x.lose(0);
        due("16 lost", x.comes(0), 3);
        for (int t : new int[] {-1, 5, MIN, MAX}) due("16 bad", x.comes(t), BAD);
        LeastNeed y = plain(4, 2, 2, 4);
        y.thing(PLAIN, 0, 0);
        y.thing(PAIR, 0, 0);
        y.thing(TWIN, 0, 0);
        y.thing(USELESS, 0, 1);
        due("16 like ones", y.comes(0), NONE);
        due("16 a like pair", y.comes(1), NONE);
        due("16 twin: the first", y.comes(2), 1);
        due("16 useless, like ones", y.comes(3), NONE);
        LeastNeed z = new LeastNeed();
        z.person(PLAIN, 0, 0, 0, 0, 0);
        z.thing(PLAIN, 0, 0);
        due("16 nobody else", z.comes(0), NONE);
        z.person(PLAIN, 7, 0, 0, 0, 0);
        z.thing(ALIVE, 0, 0);
        z.thing(SHY, 0, 0);
        due("16 plain comes", z.comes(0), 1);
        due("16 alive, too far", z.comes(1), NONE);
        due("16 shy, too far", z.comes(2), NONE);
        z.person(PLAIN, 6, 9, 9, 9, 9);
        due("16 alive, just near", z.comes(1), 2);
        due("16 shy, just near", z.comes(2), 2);
        z.person(PLAIN, 5, 9, 9, 9, 9);
        due("16 alive, alike", z.comes(1), NONE);
        due("16 shy, nearer", z.comes(2), 3);
        LeastNeed v = new LeastNeed();
        v.person(PLAIN, 0, 0, 0, 0, 0);
        v.person(PLAIN, 0, 9, 0, 0, 1);
        v.person(PLAIN, 0, 1, 0, 0, 3);
        v.thing(PAIR, 3, 0);
        due("16 next of sort 3 is sort 0", v.comes(0), 2);
        refused("16", x, 4, 0, 0);
    }

    private static void promise17() {
        LeastNeed x = plain(3, 2, 1);
        x.thing(PLAIN, 0, 0);
        int[] who = {0, 2, 1, 2, 1};
        for (int m = 0; m < 5; m++) due("17 behind " + m, x.chain(0, m), who[m]);
        due("17 behind 50", x.chain(0, 50), 1);
        due("17 behind 49", x.chain(0, 49), 2);
        for (int n : new int[] {-1, 51, MIN, MAX}) {
            due("17 bad m", x.chain(0, n), BAD);
            due("17 bad thing", x.chain(n == 51 ? 1 : n, 0), BAD);
        }
        x.lose(0);
        due("17 who lost it has it first", x.chain(0, 0), 0);
        due("17 then", x.chain(0, 1), 2);
        LeastNeed y = plain(1, 2, 2);
        y.thing(PLAIN, 0, 1);
        due("17 from 1 to 0", y.chain(0, 1), 0);
        due("17 to the boundary", y.chain(0, 2), NONE);
        due("17 and stays", y.chain(0, 3), NONE);
        refused("17", x, 8, 0, 0);
    }

    private static void promise18() {
        LeastNeed x = plain(3, 2, 1);
        x.thing(PLAIN, 0, 0);
        due("18 how many", x.ring(0, 0), 3);
        due("18 its ring", x.ring(0, 1), 2);
        LeastNeed y = plain(1, 2, 2);
        y.thing(PLAIN, 0, 1);
        due("18 to the boundary", y.ring(0, 0), 2);
        due("18 no ring", y.ring(0, 1), 0);
        LeastNeed z = plain(1);
        z.thing(PLAIN, 0, 0);
        due("18 one alone", z.ring(0, 0), 1);
        due("18 no ring", z.ring(0, 1), 0);
        LeastNeed v = new LeastNeed();
        for (int i = 0; i < 3; i++) v.person(PLAIN, 5 * i, i == 0 ? 4 : 0, 0, 0, 0);
        v.thing(SHY, 0, 1);
        due("18 shy: from 1 to 2 and back", v.ring(0, 0), 2);
        due("18 shy", v.ring(0, 1), 2);
        LeastNeed w = new LeastNeed();
        int[] houses = {0, 4, 10, 15};
        int[] needs = {0, 1, 0, 1};
        for (int i = 0; i < 4; i++) w.person(PLAIN, houses[i], needs[i], 0, 0, 0);
        w.thing(ALIVE, 0, 3);
        due("18 alive: 3, 2, then 1 and 3 alike", w.ring(0, 0), 2);
        due("18 alive: boundary", w.ring(0, 1), 0);
        w.coat(3, 1);
        due("18 alive: 3, 2, 1, then 0 and 2 alike", w.ring(0, 0), 3);
        w.coat(2, 1);
        due("18 alive: 3, 2, 1, 0 and 1 again", w.ring(0, 0), 4);
        due("18 alive: its ring", w.ring(0, 1), 2);
        for (int n : new int[] {-1, 2, MIN, MAX}) {
            due("18 bad what", x.ring(0, n), BAD);
            due("18 bad thing", x.ring(n == 2 ? 1 : n, 0), BAD);
        }
        refused("18", x, 8, 0, 0);
    }

    private static void promise19() {
        LeastNeed x = plain(3, 2, 1, 5);
        x.thing(PLAIN, 0, 0);
        int[] days = {0, 2, 1, NONE};
        for (int q = 0; q < 4; q++) {
            due("19 days to " + q, x.send(0, q, 0), days[q]);
            due("19 losses to " + q, x.send(0, q, 1), days[q]);
        }
        x.lose(0);
        due("19 lost: to 2 in a day", x.send(0, 2, 0), 1);
        due("19 lost: to 2 without a loss", x.send(0, 2, 1), 0);
        due("19 lost: to 1 in two", x.send(0, 1, 0), 2);
        due("19 lost: to 1 with one", x.send(0, 1, 1), 1);
        due("19 nothing is changed", x.count(2), 0);
        for (int n : new int[] {-1, 2, MIN, MAX}) {
            due("19 bad what", x.send(0, 0, n), BAD);
            due("19 bad thing", x.send(n == 2 ? 1 : n, 0, 0), BAD);
            due("19 bad person", x.send(0, n == 2 ? 4 : n, 0), BAD);
        }
        refused("19", x, 12, 0, 0);
        LeastNeed y = new LeastNeed();
        y.person(PLAIN, 0, 9, 0, 0, 0);
        y.person(MOODY, 0, 2, 0, 0, 0);
        y.person(PLAIN, 0, 3, 0, 0, 0);
        y.thing(PLAIN, 0, 0);
        due("19 keep it until the odd day", y.send(0, 2, 0), 2);
        due("19 one loss then", y.send(0, 2, 1), 1);
        y.person(PLAIN, 0, 4, 0, 0, 0);
        due("19 never", y.send(0, 3, 0), NONE);
        due("19 never", y.send(0, 3, 1), NONE);
        LeastNeed z = new LeastNeed();
        z.person(PLAIN, 0, 9, 0, 0, 0);
        z.person(MOODY, 0, 2, 0, 0, 0);
        z.person(PLAIN, 0, 2, 0, 0, 0);
        z.thing(PLAIN, 0, 0);
        due("19 by the boundary", z.send(0, 2, 0), 2);
        due("19 by the boundary, one loss", z.send(0, 2, 1), 1);
        z.lose(0);
        due("19 lost, today it lies", z.send(0, 2, 0), 2);
        due("19 lost, today it lies, no loss", z.send(0, 2, 1), 0);
        z.day(1);
        due("19 on the boundary", z.about(0, 4), 2);
        due("19 from the boundary", z.send(0, 2, 0), 1);
        due("19 from the boundary, no loss", z.send(0, 2, 1), 0);
        due("19 who lost it does not have it", z.send(0, 0, 0), NONE);
    }

    private static void promise20() {
        LeastNeed x = plain(9, 3, 5);
        x.thing(PLAIN, 0, 0);
        due("20 not to 1: alike is enough", x.wears(1, 0, 0), 2);
        due("20 to 1: already", x.wears(1, 0, 1), 0);
        due("20 not to 2: already", x.wears(2, 0, 0), 0);
        due("20 to 2: never", x.wears(2, 0, 1), NONE);
        due("20 who has it", x.wears(0, 0, 0), NONE);
        due("20 who has it", x.wears(0, 0, 1), NONE);
        x.coat(1, 3);
        due("20 the coat now does not count", x.wears(1, 0, 0), 2);
        due("20 all others as they are", x.wears(2, 0, 1), 0);
        due("20 nothing is changed", x.of(1, 2), 3);
        x.lose(0);
        due("20 who lost it", x.wears(0, 0, 0), NONE);
        x.thing(USELESS, 0, 0);
        due("20 useless: with 2 more", x.wears(1, 1, 1), 3);
        LeastNeed y = new LeastNeed();
        y.person(PLAIN, 0, 0, 0, 0, 0);
        y.person(PROUD, 0, 0, 0, 0, 0);
        y.person(PLAIN, 0, 9, 0, 0, 0);
        y.thing(PLAIN, 0, 0);
        due("20 the proud one: no coat helps", y.wears(1, 0, 0), NONE);
        LeastNeed z = plain(0, 0, 9);
        z.thing(PLAIN, 0, 0);
        due("20 nine", z.wears(1, 0, 0), 9);
        LeastNeed v = plain(0, 0);
        v.thing(PLAIN, 0, 0);
        due("20 not even nine", v.wears(1, 0, 0), NONE);
        for (int n : new int[] {-1, 2, MIN, MAX}) {
            due("20 bad what", v.wears(0, 0, n), BAD);
            due("20 bad thing", v.wears(0, n == 2 ? 1 : n, 0), BAD);
            due("20 bad person", v.wears(n, 0, 0), BAD);
        }
        refused("20", v, 12, 0, 0);
    }

    /** Things asked back for 21 (miller), 5 (plain), 0 (nun), 10 (rich); one is at home. */
    private static LeastNeed away() {
        LeastNeed x = new LeastNeed();
        x.person(PLAIN, 0, 9, 9, 9, 9);
        x.person(MILLER, 1, 9, 9, 9, 9);
        x.person(PLAIN, 2, 4, 9, 9, 9);
        x.person(NUN, 3, 9, 9, 9, 9);
        x.person(RICH, 4, 9, 9, 9, 8);
        x.thing(PLAIN, 2, 0);
        x.thing(PLAIN, 0, 0);
        x.thing(PLAIN, 1, 0);
        x.thing(PLAIN, 3, 0);
        x.thing(PLAIN, 0, 0);
        return x;
    }

    private static void promise21and22() {
        LeastNeed x = away();
        due("21 none", x.costs(), 0);
        due("22 none", x.few(200), 0);
        due("21 nobody", new LeastNeed().costs(), 0);
        due("22 nobody", new LeastNeed().few(0), 0);
        x.lose(0);
        due("21 lost", x.costs(), 0);
        due("22 lost", x.few(200), 0);
        LeastNeed y = new LeastNeed();
        y.person(PLAIN, 0, 9, 9, 9, 9);
        y.person(MILLER, 0, 9, 9, 0, 9);
        y.person(RICH, 0, 9, 8, 9, 9);
        y.person(PLAIN, 0, 3, 9, 9, 9);
        for (int s = 0; s < 3; s++) y.thing(PLAIN, s, 0);
        for (int t = 0; t < 3; t++) y.lose(t);
        due("21 one lies", y.day(1), 1);
        due("21 sight to the plain one: 6", y.about(0, 3), 3);
        due("21 legs: rich 4, miller 4", y.comes(1), NONE);
        due("21 purse to the miller: 21", y.about(2, 3), 1);
        due("21 legs on the boundary", y.about(1, 4), 2);
        due("21 6 and 21", y.costs(), 27);
    }

    private static void promise21() {
        promise21and22();
        LeastNeed x = new LeastNeed();
        x.person(PLAIN, 0, 9, 9, 9, 9);
        x.person(MILLER, 0, 9, 9, 9, 9);
        x.person(RICH, 0, 9, 6, 9, 9);
        x.person(PLAIN, 0, 2, 9, 9, 9);
        x.person(NUN, 9, 9, 9, 9, 0);
        x.thing(PLAIN, 2, 0);
        x.thing(PLAIN, 3, 0);
        x.thing(ALIVE, 0, 0);
        x.thing(ALIVE, 1, 0);
        x.coat(4, 9);
        for (int t = 0; t < 4; t++) x.lose(t);
        due("21 the purse: miller and nun alike", x.day(1), 1);
        due("21 courage to the nun", x.about(1, 3), 4);
        due("21 sight to the plain one", x.about(2, 3), 3);
        due("21 legs to the rich one", x.about(3, 3), 2);
        due("21 0 and 7 and twice 6", x.costs(), 19);
        x.coat(3, 4);
        due("21 what is shown today", x.costs(), 15);
        due("22 nothing but the nun's", x.few(0), 1);
        due("22 not quite", x.few(2), 1);
        due("22 the plain one's too", x.few(3), 2);
        due("22 not quite", x.few(14), 2);
        due("22 all", x.few(15), 3);
        due("22 more than all", x.few(200), 3);
        x.back(2);
        due("21 without it", x.costs(), 12);
        due("22 without it", x.few(11), 1);
        due("22 without it", x.few(12), 2);
        due("21 nothing is changed", x.about(3, 3), 2);
        fewOfUnsortedOnes();
    }

    private static void fewOfUnsortedOnes() {
        int[][] prices = {{9, 1, 5}, {1, 5, 9}, {5, 9, 1}, {9, 5, 1}, {5, 1, 9}};
        for (int[] ask : prices) {
            LeastNeed x = new LeastNeed();
            x.person(PLAIN, 0, 9, 9, 9, 9);
            x.person(PLAIN, 0, 9 - ask[0], 9 - ask[1], 9 - ask[2], 9);
            for (int t = 0; t < 3; t++) x.thing(PLAIN, t, 0);
            for (int t = 0; t < 3; t++) x.lose(t);
            x.day(1);
            due("21 together", x.costs(), 15);
            int[] few = {0, 1, 1, 1, 1, 1, 2, 2, 2, 2, 2, 2, 2, 2, 2, 3, 3};
            for (int i = 0; i < few.length; i++) due("22 few for " + i, x.few(i), few[i]);
        }
    }

    private static void promise22() {
        LeastNeed x = new LeastNeed();
        for (int n : new int[] {-1, 201, MIN, MAX}) due("22 bad", x.few(n), BAD);
        refused("22", x, 4, 0, 0);
        due("22 edge", x.few(200), 0);
    }

    private static void promise23() {
        LeastNeed x = plain(3, 1, 2, 5);
        x.thing(PLAIN, 0, 3);
        due("23 to 1 from all others", x.loser(0, 1), 13);
        due("23 to 2 from 1", x.loser(0, 2), 2);
        due("23 to 0 from none", x.loser(0, 0), 0);
        x.lose(0);
        due("23 whoever lost it", x.loser(0, 1), 13);
        x.person(MOODY, 0, 0, 0, 0, 0);
        due("23 today", x.loser(0, 4), 15);
        x.coat(1, 1);
        x.coat(2, 1);
        x.day(1);
        due("23 on the odd day from 1 alone: from others it lies", x.loser(0, 4), 2);
        for (int n : new int[] {-1, 5, MIN, MAX}) {
            due("23 bad thing", x.loser(n, 0), BAD);
            due("23 bad person", x.loser(0, n), BAD);
        }
        refused("23", x, 8, 0, 0);
    }

    private static void promise24() {
        LeastNeed x = plain(1, 2);
        due("24 edge", x.note(1, 9, 9, 3, 99, 30), 1);
        for (int n : new int[] {-1, 100, MIN, MAX}) {
            due("24 bad p", x.note(n == 100 ? 2 : n, 0, 0, 0, 0, 0), BAD);
            due("24 bad n", x.note(0, n == 100 ? 10 : n, 0, 0, 0, 0), BAD);
            due("24 bad c", x.note(0, 0, n == 100 ? 10 : n, 0, 0, 0), BAD);
            due("24 bad s", x.note(0, 0, 0, n == 100 ? 4 : n, 0, 0), BAD);
            due("24 bad d", x.note(0, 0, 0, 0, n, 0), BAD);
            due("24 bad x", x.note(0, 0, 0, 0, 0, n == 100 ? 31 : n), BAD);
        }
        for (int i = 2; i <= 6; i++) due("24 note", x.note(0, 0, 0, 0, 0, 0), i);
        due("24 full", x.note(0, 0, 0, 0, 0, 0), FULL);
        due("24 bad ahead of full", x.note(2, 0, 0, 0, 0, 0), BAD);
        due("24 notes", x.count(5), 6);
        due("24 none may be undone by it", x.count(7), 0);
        refused("24", x, 25, 0, 1);
    }

    private static void promise25() {
        LeastNeed x = plain(1, 2);
        x.thing(0, 0, 0);
        due("25 first", x.came(0, 1, 99, 0), 1);
        due("25 boundary", x.came(0, 1, 0, NONE), 2);
        for (int n : new int[] {-1, 100, MIN, MAX}) {
            due("25 bad t", x.came(n == 100 ? 1 : n, 0, 0, 1), BAD);
            due("25 bad p", x.came(0, n == 100 ? 2 : n, 0, 1), BAD);
            due("25 bad d", x.came(0, 0, n, 1), BAD);
            due("25 bad q", x.came(0, 0, 0, n == -1 ? -2 : n), BAD);
        }
        due("25 q of no one", x.came(0, 0, 0, 2), BAD);
        due("25 p and q alike", x.came(0, 1, 0, 1), BAD);
        due("25 p none, q none", x.came(0, -1, 0, -1), BAD);
        for (int i = 3; i <= 6; i++) due("25 came", x.came(0, 0, 0, 1), i);
        due("25 full", x.came(0, 0, 0, 1), FULL);
        due("25 bad ahead of full", x.came(0, 1, 0, 1), BAD);
        due("25 cames", x.count(6), 6);
        refused("25", x, 20, 0, 1);
    }

    private static void promise26() {
        LeastNeed x = plain(1, 2);
        x.thing(0, 0, 0);
        x.note(0, 0, 0, 0, 0, 1);
        x.note(0, 0, 0, 0, 0, 1);
        x.came(0, 0, 0, 1);
        due("26 kinds", x.is(0), 0);
        due("26 came", x.forget(1), 1);
        due("26 came are none", x.count(6), 0);
        due("26 notes stay", x.count(5), 2);
        due("26 notes", x.forget(0), 2);
        due("26 notes are none", x.count(5), 0);
        due("26 again", x.forget(0), 0);
        due("26 kinds", x.is(0), 63);
        due("26 from the first one on", x.note(1, 0, 0, 0, 0, 0), 1);
        for (int n : new int[] {-1, 2, MIN, MAX}) due("26 bad", x.forget(n), BAD);
        refused("26", x, 4, 0, 0);
    }

    private static void promise27() {
        LeastNeed x = plain(0, 0);
        due("27 no notes", x.is(0), 63);
        x.note(0, 5, 4, 2, 1, 9);
        due("27 plain alone", x.is(0), 1);
        due("27 of another", x.is(1), 63);
        x.note(1, 5, 4, 3, 1, 5);
        due("27 proud and nun", x.is(1), 36);
        x.note(1, 5, 4, 0, 1, 5);
        due("27 proud", x.is(1), 4);
        x.note(1, 5, 4, 0, 1, 4);
        due("27 none", x.is(1), 0);
        x.forget(0);
        x.note(0, 5, 4, 0, 1, 4);
        due("27 rich and miller", x.is(0), 18);
        x.note(0, 5, 4, 2, 1, 0);
        due("27 miller", x.is(0), 16);
        x.forget(0);
        x.note(0, 5, 4, 2, 99, 11);
        due("27 moody", x.is(0), 8);
        x.forget(0);
        x.note(0, 5, 4, 2, 98, 9);
        due("27 plain or moody", x.is(0), 9);
        for (int n : new int[] {-1, 2, MIN, MAX}) due("27 bad", x.is(n), BAD);
        refused("27", x, 4, 0, 0);
    }

    private static void promise28() {
        LeastNeed x = new LeastNeed();
        x.person(PLAIN, 0, 0, 0, 0, 0);
        x.person(PLAIN, 0, 0, 4, 0, 9);
        due("28 needs 0: on an odd day five are alike", x.watch(0), 1);
        due("28 plain 4, rich 2, proud 4, moody 6, miller 2, nun 0", x.watch(1), 11);
        x.coat(1, 6);
        due("28 sort 0, even: plain 6, rich 3, proud 0, moody 6, miller 3, nun 0; odd: 8", x.watch(1), 0);
        x.note(1, 5, 4, 0, 0, 9);
        due("28 plain or moody", x.is(1), 9);
        due("28 the odd day", x.watch(1), 1);
        x.forget(0);
        x.note(1, 5, 4, 2, 1, 4);
        due("28 rich alone", x.is(1), 2);
        due("28 one kind: the least", x.watch(1), 0);
        x.note(1, 5, 4, 2, 1, 5);
        due("28 no kind", x.watch(1), NONE);
        x.forget(0);
        x.note(1, 5, 4, 3, 0, 4);
        due("28 rich or miller", x.is(1), 18);
        due("28 the purse", x.watch(1), 20);
        x.coat(1, 1);
        x.forget(0);
        x.note(1, 4, 0, 3, 0, 4);
        due("28 plain, proud, moody, nun", x.is(1), 45);
        due("28 sort 0 on an odd day: 1, 0, 3, 0; sort 1: 5, 4, 7, 0", x.watch(1), 11);
        for (int n : new int[] {-1, 2, MIN, MAX}) due("28 bad", x.watch(n), BAD);
        refused("28", x, 4, 0, 0);
    }

    private static void promise29() {
        LeastNeed x = new LeastNeed();
        x.person(PLAIN, 0, 5, 0, 0, 0);
        x.person(PLAIN, 7, 1, 9, 0, 0);
        x.person(PLAIN, 6, 2, 0, 0, 0);
        x.person(PLAIN, 1, 3, 0, 0, 0);
        x.thing(PLAIN, 0, 0);
        x.thing(PLAIN, 0, 0);
        due("29 none told", x.kinds(0), 63);
        x.came(0, 0, 0, 1);
        due("29 to 1: plain", x.kinds(0), 1);
        due("29 of another", x.kinds(1), 63);
        x.forget(1);
        x.came(0, 0, 0, 2);
        due("29 to 2: pair, alive, twin", x.kinds(0), 22);
        x.forget(1);
        x.came(0, 0, 0, 3);
        due("29 to 3: useless (37), shy (4)", x.kinds(0), 40);
        x.came(0, 3, 0, NONE);
        due("29 from 3 it does not lie", x.kinds(0), 0);
        x.forget(1);
        x.coat(2, 1);
        x.came(0, 0, 0, NONE);
        due("29 coats as they are: pair 4 and 3, alive 3 and 3, useless 37 and 37", x.kinds(0), 12);
        x.coat(2, 0);
        due("29 as they are now", x.kinds(0), 0);
        LeastNeed y = new LeastNeed();
        y.person(PLAIN, 0, 0, 0, 0, 0);
        y.person(MOODY, 0, 2, 0, 0, 0);
        y.person(PLAIN, 0, 3, 0, 0, 0);
        y.thing(PLAIN, 0, 0);
        y.came(0, 0, 99, 2);
        due("29 on that day", y.kinds(0), 55);
        for (int n : new int[] {-1, 1, MIN, MAX}) due("29 bad", y.kinds(n), BAD);
        refused("29", y, 4, 0, 0);
    }

    private static void promise30() {
        LeastNeed x = new LeastNeed();
        x.person(PLAIN, 0, 5, 0, 0, 0);
        x.person(PLAIN, 7, 1, 9, 0, 0);
        x.person(PLAIN, 6, 2, 0, 0, 0);
        x.person(PLAIN, 1, 3, 0, 0, 0);
        x.thing(PLAIN, 0, 3);
        due("30 from 0: 1, 2, 2, 3, 2, 3; from 3: 1, 2, 1, 0, 2, 0", x.by(0), 3);
        x.came(0, 0, 0, 1);
        due("30 one kind: the first", x.by(0), 0);
        x.came(0, 0, 0, 2);
        due("30 no kind", x.by(0), NONE);
        LeastNeed y = plain(0, 4, 4);
        y.thing(PLAIN, 0, 0);
        due("30 from 0: boundary but for the twin; from 1 to 0 but useless", y.by(0), 0);
        y.came(0, 0, 0, NONE);
        due("30 all but the twin", y.kinds(0), 47);
        due("30 from 0 five lie, from 1 four go to 0", y.by(0), 1);
        LeastNeed z = new LeastNeed();
        z.person(PLAIN, 0, 1, 0, 0, 0);
        z.person(MOODY, 0, 0, 0, 0, 0);
        z.person(PLAIN, 0, 1, 0, 0, 0);
        z.person(PLAIN, 0, 9, 9, 0, 0);
        z.thing(PLAIN, 0, 0);
        z.came(0, 3, 0, 1);
        due("30 all but useless", z.kinds(0), 55);
        due("30 even: all from 0 go to 1, all from 1 lie but the twin", z.by(0), 1);
        LeastNeed v = new LeastNeed();
        v.person(MOODY, 0, 0, 0, 0, 0);
        v.person(PLAIN, 0, 2, 0, 0, 0);
        v.person(PLAIN, 0, 9, 0, 0, 0);
        v.thing(PLAIN, 0, 0);
        v.came(0, 2, 0, 0);
        due("30 all but useless", v.kinds(0), 55);
        due("30 even: all alike from each", v.by(0), 0);
        v.day(1);
        due("30 odd: from 2 pair and twin come to 1, the others lie", v.by(0), 2);
        for (int n : new int[] {-1, 1, MIN, MAX}) due("30 bad", z.by(n), BAD);
        refused("30", z, 4, 0, 0);
    }

    private static void promise31() {
        LeastNeed x = plain(9, 3, 5, 9);
        x.thing(PLAIN, 0, 0);
        due("31 1 wears 2 more, none gets it", x.coats(0, 1, 2, -1), 4);
        int[] rest = {12, 19, 26, 33, -5};
        int[] otherWay = {2, 9, 16, 23, -5};
        for (int k = 0; k < 5; k++) {
            due("31 the k-th", x.coats(0, 1, 2, k), rest[k]);
            due("31 the other way", x.coats(0, 2, 1, k), otherWay[k]);
        }
        due("31 far too many", x.coats(0, 1, 2, MAX), -5);
        due("31 none of them gets it but 1 does", x.coats(0, 2, 3, 0), 0);
        due("31 the loser gets none", x.coats(0, 0, 3, 0), 0);
        refused("31 -5 is none of these", x, 0, 0, 0);
        x.coat(1, 9);
        due("31 coats put on instead", x.coats(0, 1, 2, 0), 12);
        due("31 nothing is changed", x.of(1, 2), 9);
        due("31 alike", x.coats(0, 1, 1, 0), -10);
        for (int n : new int[] {-1, 4, MIN, MAX}) {
            due("31 bad thing", x.coats(n == 4 ? 1 : n, 0, 1, 0), -10);
            due("31 bad a", x.coats(0, n, 1, 0), -10);
            due("31 bad b", x.coats(0, 1, n, 0), -10);
        }
        due("31 bad k", x.coats(0, 0, 1, -2), -10);
        due("31 bad k", x.coats(0, 0, 1, MIN), -10);
        refused("31", x, 15, 0, 0);
        LeastNeed y = plain(9, 0, 0);
        y.thing(PLAIN, 0, 0);
        due("31 both alike: it lies", y.coats(0, 1, 2, -1), 6);
        for (int k = 0; k < 6; k++) due("31 both alike", y.coats(0, 1, 2, k), 7 * k);
        LeastNeed z = plain(9, 0, 0, 9);
        z.thing(TWIN, 0, 0);
        due("31 twins: one wants 1 more, the other as many, but for 5 and 5: 3 has it", z.coats(0, 1, 2, -1), 1);
        due("31 twins", z.coats(0, 1, 2, 0), 35);
        z.valley();
        for (int n : new int[] {9, 0, 0}) z.person(PLAIN, 0, n, 0, 0, 0);
        z.thing(TWIN, 0, 0);
        due("31 twins alone: none rests", z.coats(0, 1, 2, -1), 0);
        due("31 twins alone: none", z.coats(0, 1, 2, 0), -5);
        LeastNeed v = plain(9, 0, 6);
        v.thing(PLAIN, 0, 0);
        due("31 6 would cost as much as it", v.coats(0, 1, 2, -1), 1);
        due("31 so none", v.coats(0, 1, 2, 0), 0);
    }

    private static void chance(String what, LeastNeed x, int q, int m, int c, long above, long below) {
        due(what, x.odds(0, q, m, c), 1);
        due(what + " above", x.part(0), above);
        due(what + " below", x.part(1), below);
    }

    private static void promise32() {
        LeastNeed x = plain(3, 2, 1);
        x.thing(PLAIN, 0, 0);
        chance("32 has it", x, 0, 0, 5, 1, 1);
        chance("32 has it not", x, 1, 0, 5, 0, 1);
        chance("32 a day", x, 0, 1, 3, 7, 10);
        chance("32 a day", x, 2, 1, 3, 3, 10);
        chance("32 a half", x, 2, 1, 5, 1, 2);
        chance("32 two days", x, 1, 2, 3, 9, 100);
        chance("32 two days: .3 x .7 and .7 x .3", x, 2, 2, 3, 21, 50);
        chance("32 seven days", x, 0, 7, 1, 4782969, 10000000);
        chance("32 never", x, 0, 7, 0, 1, 1);
        chance("32 always", x, 1, 6, 10, 1, 1);
        chance("32 always", x, 2, 7, 10, 1, 1);
        x.lose(0);
        chance("32 lost, now", x, 0, 0, 5, 0, 1);
        chance("32 lost, it comes", x, 2, 1, 0, 1, 1);
        chance("32 lost, then", x, 1, 2, 4, 2, 5);
        LeastNeed y = new LeastNeed();
        y.person(PLAIN, 0, 9, 0, 0, 0);
        y.person(MOODY, 0, 2, 0, 0, 0);
        y.person(PLAIN, 0, 2, 0, 0, 0);
        y.thing(PLAIN, 0, 0);
        chance("32 on the boundary, nobody has it", y, 2, 1, 5, 0, 1);
        chance("32 from the boundary", y, 2, 2, 5, 3, 4);
        for (int n : new int[] {-1, 11, MIN, MAX}) {
            due("32 bad thing", x.odds(n, 0, 0, 0), BAD);
            due("32 bad person", x.odds(0, n, 0, 0), BAD);
            due("32 bad days", x.odds(0, 0, n == 11 ? 8 : n, 0), BAD);
            due("32 bad chance", x.odds(0, 0, 0, n), BAD);
        }
        due("32 the fraction stays", x.part(1), 5);
        due("32 nothing is changed", x.count(2), 0);
        refused("32", x, 16, 0, 0);
    }

    private static void promise33() {
        LeastNeed x = plain(3, 2, 1);
        for (int t = 0; t < 5; t++) x.thing(PLAIN, 0, 0);
        due("33 no day", x.years(0, 0), 5);
        // Seed 1: X is 1103527590, then 377401575; by 65536: 16838, 5758; by 5 left over: 3, 3
        due("33 a day", x.years(1, 1), 4);
        due("33 another one", x.years(1, 2), 4);
        due("33 nothing is changed", x.about(3, 3), 0);
        due("33 nor the day", x.count(2), 0);
        LeastNeed y = plain(1, 2);
        y.thing(PLAIN, 0, 0);
        y.lose(0);
        due("33 lost now: it comes to 1", y.years(1, 1), 0);
        due("33 lost, no day", y.years(1, 0), 0);
        LeastNeed w = plain(1, 2);
        w.thing(PLAIN, 0, 0);
        due("33 thing 3 is not there", w.years(1, 2), 1);
        due("33 seed 0: X is 12345, thing 0", w.years(0, 1), 0);
        for (int n : new int[] {-1, MIN, MAX}) {
            due("33 bad seed", x.years(n, 0), BAD);
            due("33 bad days", x.years(0, n), BAD);
        }
        due("33 bad seed", x.years(1000000, 0), BAD);
        due("33 bad days", x.years(0, 61), BAD);
        due("33 edges", x.years(999999, 0), 5);
        refused("33", x, 8, 0, 0);
        LeastNeed z = plain(1, 2);
        z.thing(PLAIN, 0, 0);
        int home = 1;
        long seed = 77;
        for (int n = 1; n <= 60; n++) {
            seed = (seed * 1103515245L + 12345L) & 0x7fffffffL;
            if ((seed >> 16) % 5 == 0) home = 1 - home;
            due("33 to and fro " + n, z.years(77, n), home);
        }
    }

    private static void promise34() {
        LeastNeed x = plain(3, 2);
        x.thing(PLAIN, 0, 0);
        due("34 above", x.part(0), 0);
        due("34 below", x.part(1), 1);
        x.odds(0, 1, 1, 8);
        due("34 above", x.part(0), 4);
        due("34 below", x.part(1), 5);
        for (int n : new int[] {-1, 2, MIN, MAX}) due("34 bad", x.part(n), BAD);
        refused("34", x, 4, 0, 0);
    }

    private static void promise35and36() {
        LeastNeed x = village();
        x.thing(TWIN, 1, 2);
        x.note(1, 0, 0, 0, 0, 0);
        x.came(0, 0, 0, 1);
        x.coat(2, 5);
        x.lose(0);
        x.day(4);
        long then = x.digest();
        due("35 image", x.image(0), 1);
        due("35 another", x.image(1), 1);
        for (int n : new int[] {-1, 2, MIN, MAX}) {
            due("35 bad", x.image(n), BAD);
            due("36 bad", x.from(n), BAD);
        }
        due("36 the days are undone", x.undo(), 0);
        x.person(PLAIN, 0, 0, 0, 0, 0);
        x.forget(0);
        x.forget(1);
        x.image(1);
        due("36 from", x.from(0), 1);
        due("36 all as then", x.digest(), then);
        due("36 three may be undone", x.count(7), 3);
        due("36 undo", x.undo(), 0);
        x.undo();
        x.undo();
        due("36 no coat", x.of(2, 2), 0);
        due("36 not more", x.undo(), NO);
        due("36 once more", x.from(0), 1);
        due("36 the image stays as it was", x.digest(), then);
        due("36 the other one", x.from(1), 1);
        due("36 of then", x.count(0), 7);
        due("36 no notes then", x.count(5), 0);
        x.type(65);
        x.odds(0, 0, 0, 0);
        long above = x.part(0);
        x.from(0);
        due("36 the text stays", x.count(8), 1);
        due("36 the fraction stays", x.part(0), above);
        refused("36 status stays", x, 8, 1, 0);
        LeastNeed y = new LeastNeed();
        due("36 none kept", y.from(0), NO);
        y.image(0);
        due("36 not that one", y.from(1), NO);
        due("36 an empty one", y.from(0), 1);
        otherThingsInBetween();
        refused("36", y, 0, 2, 0);
    }

    private static void otherThingsInBetween() {
        LeastNeed x = village();
        for (int t = 0; t < 3; t++) x.thing(5 - t, 3 - t, t + 1);
        x.note(1, 2, 3, 1, 5, 6);
        x.came(1, 2, 3, 4);
        for (int c = 1; c < 4; c++) x.coat(c, c);
        x.lose(1);
        long then = x.digest();
        x.image(1);
        x.valley();
        for (int p = 0; p < 7; p++) x.person(p % 2, 1, 7, 6, 5, 4);
        for (int t = 0; t < 5; t++) x.thing(t % 2, 0, 6);
        for (int i = 0; i < 3; i++) {
            x.note(0, 1, 1, 1, 1, 1);
            x.came(0, 1, 1, 0);
        }
        for (int c = 1; c < 9; c++) x.coat(6, c);
        long other = x.digest();
        x.image(0);
        due("36 the valley told first", x.from(1), 1);
        due("36 all as then", x.digest(), then);
        for (int t = 0; t < 3; t++) due("36 its things", x.about(t, 1) * 10 + x.about(t, 2), 10 * (3 - t) + t + 1);
        due("36 its notes fit none", x.is(1), 0);
        for (int i = 0; i < 4; i++) x.undo();
        due("36 its past", x.of(3, 2) + x.about(1, 4) + x.count(7), 0);
        x.from(0);
        due("36 the other one", x.digest(), other);
    }

    private static void promise37() {
        LeastNeed x = new LeastNeed();
        for (int what = 0; what < 3; what++) due("37 none", x.status(what), 0);
        due("37 another", x.status(3), -1);
        due("37 another", x.status(-1), -1);
        due("37 another", x.status(MIN), -1);
        due("37 another", x.status(MAX), -1);
        x.undo();
        x.coats(0, 0, 0, 0);
        x.person(0, 0, 0, 0, 0, 0);
        x.thing(0, 0, 0);
        x.thing(0, 0, 0);
        x.coats(0, 0, 0, 9);
        x.read();
        refused("37 others count as these", x, 6, 1, 0);
        for (int i = 0; i < 7; i++) x.person(0, 0, 0, 0, 0, 0);
        refused("37 full", x, 6, 1, 1);
        x.valley();
        refused("37 stays", x, 6, 1, 1);
    }

    private static void promise38() {
        LeastNeed x = plain(3, 1, 1, 2);
        for (int t = 0; t < 3; t++) x.thing(PLAIN, 0, t);
        x.lose(0);
        x.day(2);
        x.lose(1);
        x.note(0, 0, 0, 0, 0, 0);
        x.note(0, 0, 0, 0, 0, 0);
        x.came(0, 0, 0, 1);
        x.type(1);
        int[] told = {4, 3, 2, 2, 1, 2, 1, 3, 1};
        for (int what = 0; what < 9; what++) due("38 count " + what, x.count(what), told[what]);
        x.day(1);
        due("38 one is on the boundary", x.count(3), 1);
        due("38 one came to 2, one is 2's", x.count(4), 1);
        for (int n : new int[] {-1, 9, MIN, MAX}) due("38 bad", x.count(n), BAD);
        refused("38", x, 4, 0, 0);
    }

    private static long mixed(int... all) {
        long h = 1483;
        for (int v : all) h = 31 * h + v;
        return h;
    }

    private static void promise39() {
        LeastNeed x = new LeastNeed();
        due("39 new", x.digest(), mixed(0, 0, 0, 0, 0, 0, 0, 0, 0, 0, 1));
        x.person(NUN, 19, 1, 2, 3, 4);
        x.person(RICH, 7, 9, 8, 7, 6);
        x.thing(SHY, 3, 1);
        x.thing(TWIN, 2, 0);
        due("39 there", x.digest(), mixed(2, 2, 0, 0, 2, 0, 0, 0, 0,
            NUN, 19, 0, 1, 2, 3, 4, RICH, 7, 0, 9, 8, 7, 6, SHY, 3, 1, 1, 0, TWIN, 2, 0, 0, 0, 0, 1));
        x.coat(1, 9);
        x.lose(0);
        x.lose(1);
        x.day(1);
        x.lose(1);
        x.note(1, 2, 3, 0, 5, 6);
        x.note(0, 9, 8, 3, 99, 30);
        x.came(1, 0, 55, -1);
        x.came(0, 1, 3, 0);
        x.odds(0, 0, 0, 0);
        x.type(9);
        due("39 more", x.digest(), mixed(2, 2, 1, 2, 0, 2, 2, 5, 1,
            NUN, 19, 0, 1, 2, 3, 4, RICH, 7, 9, 9, 8, 7, 6, SHY, 3, 1, 1, 2, TWIN, 2, 0, 1, 1,
            1, 2, 3, 0, 5, 6, 0, 9, 8, 3, 99, 30, 1, 0, 55, -1, 0, 1, 3, 0, 0, 1));
        x.odds(1, 0, 1, 0);
        long whole = x.digest();
        x.odds(1, 1, 1, 0);
        due("39 the fraction", whole - x.digest(), 31);
        due("39 once more", x.digest(), x.digest());
    }

    /** Day 9999 is the last, but questions go beyond it. */
    private static void beyondTheLastDay() {
        LeastNeed x = new LeastNeed();
        x.person(PLAIN, 0, 9, 0, 0, 0);
        x.person(MOODY, 0, 2, 0, 0, 0);
        x.person(PLAIN, 0, 3, 0, 0, 0);
        x.thing(PLAIN, 0, 0);
        for (int i = 0; i < 101; i++) x.day(99);
        due("the last day", x.count(2), 9999);
        due("odd: to 2", x.comes(0), 2);
        due("even, the day behind it: to 1", x.send(0, 1, 0), 2);
        due("one loss", x.send(0, 1, 1), 1);
        chance("a day each", x, 1, 2, 10, 1, 1);
        due("years", x.years(1, 60) >= 0 ? 1 : 0, 1);
    }

    public static void main(String[] args) {
        promise1();
        promise2();
        promise3();
        promise4();
        promise5();
        promise6();
        promise7();
        promise8();
        promise9();
        promise10();
        promise11();
        promise12();
        promise13();
        promise14();
        promise15();
        promise16();
        promise17();
        promise18();
        promise19();
        promise20();
        promise21();
        promise22();
        promise23();
        promise24();
        promise25();
        promise26();
        promise27();
        promise28();
        promise29();
        promise30();
        promise31();
        promise32();
        promise33();
        promise34();
        promise35and36();
        promise37();
        promise38();
        promise39();
        beyondTheLastDay();
        CHECK.end();
    }
}
