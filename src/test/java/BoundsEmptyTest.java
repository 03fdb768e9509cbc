/** The empty cases of all promises: no CITY, no HOUSES, no THINGS, no PAPERS. */
public final class BoundsEmptyTest {
    private static final Checks T = new Checks("BoundsEmptyTest");
    private static final Bounds B = new Bounds(T);
    private static final int[] WHATS = {-1, 0, 1, 2, 3, 4, 5};

    private static String state;
    private static Bounds.Doing before;

    public static void main(String[] args) {
        noCity("a new object", Bounds::nothing);
        noCity("a city of nothing", BoundsEmptyTest::wasFull);
        noCity("back to none", BoundsEmptyTest::backToNone);
        noHouses();
        noThings();
        noPapers();
        slotsWithNoCity();
        imagesWithNoCity();
        T.finish();
    }

    private static void wasFull(ReceiptLeft x) {
        Bounds.withPapers(x);
        x.night();
        x.city();
    }

    private static void backToNone(ReceiptLeft x) {
        x.image(2);
        Bounds.withPapers(x);
        x.back(2);
    }

    private static void ask(String call, Bounds.Asking asked, long want) {
        B.stays(state + ": " + call, before, asked, want);
    }

    /** -2: there is no CITY (-100,000 of NET), ahead of what else may be wrong. */
    private static void noCity(String name, Bounds.Doing made) {
        state = name;
        before = made;
        noneSuch();
        noThief();
        ask("night()", x -> x.night(), -2);
        ask("undo()", x -> x.undo(), -2);
        ask("anew()", x -> x.anew(), -2);
        ask("rings()", x -> x.rings(), -2);
        ask("twice()", x -> x.twice(), -2);
        ask("strikes()", x -> x.strikes(), -2);
        ask("struck()", x -> x.struck(), -2);
        ask("poorest()", x -> x.poorest(), -2);
        ask("monday()", x -> x.monday(), -2);
        ask("run()", x -> x.run(), -2);
        ask("deal()", x -> x.deal(), -2);
        ask("dear()", x -> x.dear(), -2);
        for (int what : WHATS) {
            ask("now(" + what + ")", x -> x.now(what), -2);
            ask("due(" + what + ")", x -> x.due(what), -2);
            ask("fails(" + what + ")", x -> x.fails(what), -2);
            ask("rests(" + what + ")", x -> x.rests(what), -2);
            ask("rest(" + what + ")", x -> x.rest(what), -2);
            ask("wrong(" + what + ")", x -> x.wrong(what), -2);
            ask("forged(" + what + ")", x -> x.forged(what), -2);
            ask("argued(" + what + ")", x -> x.argued(what), -2);
            ask("drawn(0, 0, " + what + ")", x -> x.drawn(0, 0, what), -2);
        }
        for (int what = 0; what < 10; what++) {
            int of = what;
            ask("count(" + what + ")", x -> x.count(of), 0);
        }
    }

    /** Calls that name a HOUSE. */
    private static void noThief() {
        for (int what : WHATS) {
            ask("house(0, " + what + ")", x -> x.house(0, what), -2);
            ask("house(" + what + ", 0)", x -> x.house(what, 0), -2);
            ask("net(" + what + ")", x -> x.net(what), -100000);
            ask("lock(" + what + ", 0)", x -> x.lock(what, 0), -2);
            ask("lock(0, " + what + ")", x -> x.lock(0, what), -2);
            ask("owns(" + what + ")", x -> x.owns(what), -2);
            ask("lies(" + what + ")", x -> x.lies(what), -2);
            ask("lacks(" + what + ")", x -> x.lacks(what), -2);
            ask("needs(" + what + ")", x -> x.needs(what), -2);
            ask("purse(" + what + ", 0)", x -> x.purse(what, 0), -2);
            ask("hit(" + what + ")", x -> x.hit(what), -2);
            ask("hits(" + what + ")", x -> x.hits(what), -2);
            ask("plan(0, " + what + ")", x -> x.plan(0, what), -2);
            ask("plans(0, 1, " + what + ")", x -> x.plans(0, 1, what), -2);
            ask("change(0, " + what + ")", x -> x.change(0, what), -2);
        }
    }

    /** Calls that name a THING, or a PAPER. */
    private static void noneSuch() {
        for (int what : WHATS) {
            ask("thing(" + what + ", 0)", x -> x.thing(what, 0), -2);
            ask("thing(0, " + what + ")", x -> x.thing(0, what), -2);
            ask("value(0, " + what + ")", x -> x.value(0, what), -2);
            ask("paper(" + what + ", 0)", x -> x.paper(what, 0), -2);
            ask("paper(0, " + what + ")", x -> x.paper(0, what), -2);
            ask("price(" + what + ")", x -> x.price(what), -2);
            ask("steal(0, " + what + ", 1)", x -> x.steal(0, what, 1), -2);
            ask("sell(" + what + ", 0)", x -> x.sell(what, 0), -2);
            ask("brings(" + what + ")", x -> x.brings(what), -2);
            ask("strike(" + what + ")", x -> x.strike(what), -2);
            ask("owner(" + what + ")", x -> x.owner(what), -2);
            ask("chain(0, " + what + ")", x -> x.chain(0, what), -2);
            ask("trail(0, " + what + ")", x -> x.trail(0, what), -2);
            ask("went(" + what + ")", x -> x.went(what), -2);
            ask("later(" + what + ", 0)", x -> x.later(what, 0), -2);
            ask("deals(" + what + ")", x -> x.deals(what), -2);
            ask("luck(0, 1, 0, " + what + ", 0)", x -> x.luck(0, 1, 0, what, 0), -2);
            ask("rate(" + what + ", 1)", x -> x.rate(what, 1), -2);
            ask("want(0, " + what + ", 0)", x -> x.want(0, what, 0), -2);
        }
    }

    /** A CITY of one LINE. */
    private static void noHouses() {
        state = "no HOUSES";
        before = Bounds::headAlone;
        noneSuch();
        noThief();
        ask("undo()", x -> x.undo(), -5);
        ask("anew()", x -> x.anew(), 0);
        for (int what = 0; what < 4; what++) {
            int of = what;
            ask("now(" + what + ")", x -> x.now(of), 0);
        }
        ask("poorest()", x -> x.poorest(), -1);
        ask("rests(0)", x -> x.rests(0), 1);
        ask("rest(0)", x -> x.rest(0), 0);
        ask("rests(999)", x -> x.rests(999), 1);
        ask("dear()", x -> x.dear(), 999);
        ask("drawn(9, 40, 2)", x -> x.drawn(9, 40, 2), -1);
        nothingHappens();
        int[] counts = {10, 2, 50, 0, 0, 0, 0, 1, 0, 0};
        for (int what = 0; what < 10; what++) {
            int of = what;
            ask("count(" + what + ")", x -> x.count(of), counts[of]);
        }
        ReceiptLeft x = Bounds.made(before);
        T.due("no HOUSES: night()", x.night(), 0);
        T.due("no HOUSES: the DAY", x.now(0), 1);
        T.due("no HOUSES: undo() of it", x.undo(), 0);
        T.due("no HOUSES: row(0, 0, 4)", x.row(0, 0, 4), 0);
        x.write(0, 3, 1);
        T.due("no HOUSES: wrong(0) names one", x.wrong(0), -2);
        T.due("no HOUSES: row(0, 0, 0)", x.row(0, 0, 0), 0);
        T.due("no HOUSES: wrong(0) of an empty row", x.wrong(0), 0);
        T.due("no HOUSES: forged(0) of an empty row", x.forged(0), -1);
        T.due("no HOUSES: argued(0) of an empty row", x.argued(0), 0);
    }

    /** Calls about the whole CITY that has no PAPERS. */
    private static void nothingHappens() {
        ask("rings()", x -> x.rings(), 0);
        ask("twice()", x -> x.twice(), 0);
        ask("strikes()", x -> x.strikes(), 0);
        ask("struck()", x -> x.struck(), 0);
        ask("due(0)", x -> x.due(0), 0);
        ask("due(60)", x -> x.due(60), 0);
        ask("monday()", x -> x.monday(), -1);
        ask("fails(0)", x -> x.fails(0), 0);
        ask("fails(60)", x -> x.fails(60), 0);
        ask("run()", x -> x.run(), 0);
        ask("deal()", x -> x.deal(), 0);
        ask("drawn(9, 0, 0)", x -> x.drawn(9, 0, 0), 0);
        ask("drawn(9, 40, 0)", x -> x.drawn(9, 40, 0), 0);
        ask("drawn(9, 40, 1)", x -> x.drawn(9, 40, 1), 0);
    }

    /** HOUSE 0 has a purse of 5, HOUSE 1 one of 7 and is locked. */
    private static void noThings() {
        state = "no THINGS";
        before = Bounds::noThings;
        noneSuch();
        nothingHappens();
        for (int house = 0; house < 2; house++) {
            int h = house;
            int purse = 5 + 2 * house;
            for (int what = 2; what < 5; what++) {
                int of = what;
                ask("house(" + h + ", " + what + ")", x -> x.house(h, of), 0);
            }
            ask("house(" + h + ", 0)", x -> x.house(h, 0), purse);
            ask("house(" + h + ", 1)", x -> x.house(h, 1), h);
            ask("net(" + h + ")", x -> x.net(h), purse);
            ask("owns(" + h + ")", x -> x.owns(h), 0);
            ask("lies(" + h + ")", x -> x.lies(h), 0);
            ask("lacks(" + h + ")", x -> x.lacks(h), 0);
            ask("needs(" + h + ")", x -> x.needs(h), 0);
            ask("purse(" + h + ", 60)", x -> x.purse(h, 60), purse);
            ask("hit(" + h + ")", x -> x.hit(h), 0);
            ask("hits(" + h + ")", x -> x.hits(h), -1);
            ask("plan(" + h + ", 4)", x -> x.plan(h, 4), 0);
            ask("plans(" + h + ", 4, 0)", x -> x.plans(h, 4, 0), -1);
            ask("change(" + h + ", other)", x -> x.change(h, 1 - h), -1);
        }
        ask("poorest()", x -> x.poorest(), 0);
        ask("now(3)", x -> x.now(3), 12);
        ask("rests(0), nothing is lost either way", x -> x.rests(0), 4);
        ask("rest(0)", x -> x.rest(0), 0);
        ask("rests(1)", x -> x.rests(1), 1);
        ask("rest(1)", x -> x.rest(1), 0);
        ask("dear()", x -> x.dear(), 0);
        ask("drawn(9, 40, 2)", x -> x.drawn(9, 40, 2), 5);
    }

    private static void noPapers() {
        state = "no PAPERS";
        before = Bounds::full;
        for (int paper = -1; paper < 25; paper++) {
            int p = paper;
            T.due("paper(" + p + ", 0) of none", Bounds.made(before).paper(p, 0), -2);
            T.due("price(" + p + ") of none", Bounds.made(before).price(p), -2);
        }
        ask("sell(0, 0)", x -> x.sell(0, 0), -2);
        ask("brings(0)", x -> x.brings(0), -2);
        ask("strike(0)", x -> x.strike(0), -2);
        ask("count(5)", x -> x.count(5), 0);
        ask("now(1)", x -> x.now(1), 0);
        ask("now(2)", x -> x.now(2), 0);
        ask("rings()", x -> x.rings(), 0);
        ask("twice()", x -> x.twice(), 0);
        ask("strikes()", x -> x.strikes(), 0);
        ask("struck()", x -> x.struck(), 0);
        ask("due(1)", x -> x.due(1), 0);
        ask("monday()", x -> x.monday(), -1);
        ask("fails(60)", x -> x.fails(60), 0);
        ask("run()", x -> x.run(), 0);
        for (int house = 0; house < 5; house++) {
            int h = house;
            ask("lacks(" + h + ")", x -> x.lacks(h), 0);
            ask("needs(" + h + ")", x -> x.needs(h), 0);
            ask("hit(" + h + ")", x -> x.hit(h), 0);
            ask("hits(" + h + ")", x -> x.hits(h), -1);
        }
    }

    /** SLOTS are no part of a CITY: rows are made, written and pasted without. */
    private static void slotsWithNoCity() {
        ReceiptLeft x = new ReceiptLeft();
        T.due("write(0, 0, 1) of nothing", x.write(0, 0, 1), -6);
        T.due("paste of nothing", x.paste(0, 0, 0, 0, 0), -6);
        T.due("row(0, 1, 4)", x.row(0, 1, 4), 0);
        T.due("write(0, 3, 1)", x.write(0, 3, 1), 0);
        T.due("paste(0, 0, 0, 0, 4)", x.paste(0, 0, 0, 0, 4), 0);
        T.due("wrong(0), -2 ahead of all", x.wrong(0), -2);
        T.due("wrong(1), -2 ahead of -6", x.wrong(1), -2);
        Bounds.tell(x, Bounds.FULL);
        T.due("they stay when one is told", x.wrong(0), 1);
        T.due("wrong(1) of nothing", x.wrong(1), -6);
        x.city();
        T.due("and when there is none again", x.count(9), 1);
    }

    private static void imagesWithNoCity() {
        ReceiptLeft x = new ReceiptLeft();
        for (int k = 0; k < 3; k++) {
            T.due("back(" + k + ") of nothing", x.back(k), -6);
        }
        T.due("image(0) of no CITY", x.image(0), 0);
        T.due("back(0) to no CITY", x.back(0), 0);
        T.due("back(1) still of nothing", x.back(1), -6);
        T.due("count(7)", x.count(7), 0);
    }
}
