/** Of each argument of each call the least and the greatest value, and those beyond: a test for each argument. */
public final class BoundsTest extends Edges {
    static void promise3_kind() { bounds(0, 5, (x, v) -> x.person(v, 0, 0, 0, 0, 0)); }

    static void promise3_house() { bounds(0, 19, (x, v) -> x.person(0, v, 0, 0, 0, 0)); }

    static void promise3_needOfSight() { bounds(0, 9, (x, v) -> x.person(0, 0, v, 0, 0, 0)); }

    static void promise3_needOfLegs() { bounds(0, 9, (x, v) -> x.person(0, 0, 0, v, 0, 0)); }

    static void promise3_needOfPurse() { bounds(0, 9, (x, v) -> x.person(0, 0, 0, 0, v, 0)); }

    static void promise3_needOfCourage() { bounds(0, 9, (x, v) -> x.person(0, 0, 0, 0, 0, v)); }

    static void promise4_kind() { bounds(0, 5, (x, v) -> x.thing(v, 0, 0)); }

    static void promise4_sort() { bounds(0, 3, (x, v) -> x.thing(0, v, 0)); }

    static void promise4_owner() { person((x, v) -> x.thing(0, 0, v)); }

    static void promise5_byte() { bounds(0, 127, (x, v) -> x.type(v)); }

    static void promise8_thing() { thing((x, v) -> x.lose(v)); }

    static void promise9_thing() { thing((x, v) -> x.back(v)); }

    static void promise10_person() { person((x, v) -> x.coat(v, 1)); }

    static void promise10_coat() { bounds(0, 9, (x, v) -> x.coat(1, v)); }

    static void promise11_days() { bounds(1, 99, (x, v) -> x.day(v)); }

    static void promise13_person() { person((x, v) -> x.of(v, 0)); }

    static void promise13_what() { bounds(0, 7, (x, v) -> x.of(0, v)); }

    static void promise14_thing() { thing((x, v) -> x.about(v, 0)); }

    static void promise14_what() { bounds(0, 4, (x, v) -> x.about(0, v)); }

    static void promise15_person() { person((x, v) -> x.shows(v, 0)); }

    static void promise15_sort() { bounds(0, 3, (x, v) -> x.shows(0, v)); }

    static void promise16_thing() { thing((x, v) -> x.comes(v)); }

    static void promise17_thing() { thing((x, v) -> x.chain(v, 0)); }

    static void promise17_steps() { bounds(0, 50, (x, v) -> x.chain(0, v)); }

    static void promise18_thing() { thing((x, v) -> x.ring(v, 0)); }

    static void promise18_what() { bounds(0, 1, (x, v) -> x.ring(0, v)); }

    static void promise19_thing() { thing((x, v) -> x.send(v, 0, 0)); }

    static void promise19_person() { person((x, v) -> x.send(0, v, 0)); }

    static void promise19_what() { bounds(0, 1, (x, v) -> x.send(0, 0, v)); }

    static void promise20_person() { person((x, v) -> x.wears(v, 0, 0)); }

    static void promise20_thing() { thing((x, v) -> x.wears(0, v, 0)); }

    static void promise20_what() { bounds(0, 1, (x, v) -> x.wears(1, 0, v)); }

    static void promise22_purse() { bounds(0, 200, (x, v) -> x.few(v)); }

    static void promise23_thing() { thing((x, v) -> x.loser(v, 0)); }

    static void promise23_person() { person((x, v) -> x.loser(0, v)); }

    static void promise24_person() { person((x, v) -> x.note(v, 0, 0, 0, 0, 0)); }

    static void promise24_need() { bounds(0, 9, (x, v) -> x.note(0, v, 0, 0, 0, 0)); }

    static void promise24_coat() { bounds(0, 9, (x, v) -> x.note(0, 0, v, 0, 0, 0)); }

    static void promise24_sort() { bounds(0, 3, (x, v) -> x.note(0, 0, 0, v, 0, 0)); }

    static void promise24_day() { bounds(0, 99, (x, v) -> x.note(0, 0, 0, 0, v, 0)); }

    static void promise24_shown() { bounds(0, 30, (x, v) -> x.note(0, 0, 0, 0, 0, v)); }

    static void promise25_thing() { thing((x, v) -> x.came(v, 0, 0, 1)); }

    static void promise25_loser() { person((x, v) -> x.came(0, v, 0, NONE)); }

    static void promise25_day() { bounds(0, 99, (x, v) -> x.came(0, 0, v, 1)); }

    static void promise25_whomItCameTo() {
        bounds(Edges::small, NONE, 2, BAD, (x, v) -> x.came(0, 1, 0, v));
        bounds(Edges::lived, NONE, 6, BAD, (x, v) -> x.came(0, 1, 0, v));
    }

    static void promise26_what() { bounds(0, 1, (x, v) -> x.forget(v)); }

    static void promise27_person() { person((x, v) -> x.is(v)); }

    static void promise28_person() { person((x, v) -> x.watch(v)); }

    static void promise29_thing() { thing((x, v) -> x.kinds(v)); }

    static void promise30_thing() { thing((x, v) -> x.by(v)); }

    static void promise31_thing() { thing(-10, (x, v) -> x.coats(v, 0, 1, NONE)); }

    static void promise31_theOne() { person(-10, (x, v) -> x.coats(0, v, 1, NONE)); }

    static void promise31_theOther() { person(-10, (x, v) -> x.coats(0, 1, v, NONE)); }

    static void promise31_theKth() {
        bounds(Edges::small, NONE, MAX, -10, (x, v) -> x.coats(0, 0, 1, v));
        bounds(Edges::lived, NONE, MAX, -10, (x, v) -> x.coats(0, 5, 6, v));
    }

    static void promise32_thing() { thing((x, v) -> x.odds(v, 0, 1, 1)); }

    static void promise32_person() { person((x, v) -> x.odds(0, v, 1, 1)); }

    static void promise32_days() { bounds(0, 7, (x, v) -> x.odds(0, 0, v, 1)); }

    static void promise32_ofTen() { bounds(0, 10, (x, v) -> x.odds(0, 0, 1, v)); }

    static void promise33_seed() { bounds(0, 999999, (x, v) -> x.years(v, 1)); }

    static void promise33_days() { bounds(0, 60, (x, v) -> x.years(1, v)); }

    static void promise34_what() { bounds(0, 1, (x, v) -> x.part(v)); }

    static void promise35_image() { bounds(0, 1, (x, v) -> x.image(v)); }

    static void promise36_image() { bounds(0, 1, (x, v) -> x.from(v)); }

    /** Another what answers -1 here, and counts as BAD. */
    static void promise37_what() {
        for (Made made : new Made[] {LeastNeed::new, Edges::small, Edges::lived}) bounds(made, 0, 2, -1, (x, v) -> x.status(v));
    }

    static void promise38_what() { bounds(0, 8, (x, v) -> x.count(v)); }

    public static void main(String[] args) {
        run(BoundsTest.class, 3, 4, 5, 8, 9, 10, 11, 13, 14, 15, 16, 17, 18, 19, 20, 22, 23, 24, 25, 26, 27, 28, 29, 30, 31, 32, 33,
            34, 35, 36, 37, 38);
    }
}
