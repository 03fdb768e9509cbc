/** Boundary cases of Terms III and promises 21 to 31: each sentence by a method of its own. */
public final class BoundsTitlesTest {
    private static final Checks T = new Checks("BoundsTitlesTest");
    private static final Bounds B = new Bounds(T);
    private static final String FIVE = "city eats 0 carry 6 odds 0;" + "house purse 100;".repeat(5) + "thing at 0 worth 10;".repeat(6);

    public static void main(String[] args) {
        ownerOfNoneSuch();
        chainOfNoneSuch();
        chainOfOneToFive();
        ringsOfTwoToFive();
        ringOfATail();
        ringOfTheLastTwo();
        ringsOfAll();
        chainByTheLatest();
        chainWithoutClosedOnes();
        chainWithoutThoseTakenBack();
        chainOf24();
        chainWithoutHisOwn();
        ownsOfNoneSuch();
        ownsNoneOrAll();
        twiceOfPairs();
        twiceHeldByOthers();
        strikesOfNone();
        strikesOfAllButOne();
        strikesTheLeastSet();
        strikesTheFewestFirst();
        strikesOfRingsAside();
        trailOfNoneSuch();
        trailOfMost();
        wentOfNoneSuch();
        wentToAnotherOne();
        liesOfNoneSuch();
        liesNoneOrAll();
        poorestOfSeveral();
        poorestBelowNothing();
        T.finish();
    }

    private static void five(ReceiptLeft x) {
        Bounds.tell(x, FIVE);
    }

    /** THING 0 goes from HOUSE 0 to 1, to 2, .. as far as told, then back to 0 if closed. */
    private static ReceiptLeft row(int houses, boolean closed) {
        ReceiptLeft x = Bounds.made(BoundsTitlesTest::five);
        for (int house = 1; house < houses; house++) {
            x.steal(house, 0, 60);
        }
        if (closed) {
            x.steal(0, 0, 60);
        }
        return x;
    }

    private static void ownerOfNoneSuch() {
        // 21: -2: there is none such
        B.edges("owner", Bounds::withPapers, (x, n) -> x.owner(n), 0, 5, -2);
        B.never("owner without THINGS", Bounds::noThings, (x, n) -> x.owner(n), -2);
    }

    private static void chainOfNoneSuch() {
        // 22: NONE: there is none such (a HOUSE i); -2 likewise
        B.edges("chain(n, 0)", Bounds::withPapers, (x, n) -> x.chain(n, 0), 0, 5, -2);
        B.edges("chain(0, n) of three", Bounds::withPapers, (x, n) -> x.chain(0, n), 0, 2, -1);
        B.edges("chain(4, n) of one", Bounds::withPapers, (x, n) -> x.chain(4, n), 0, 0, -1);
        B.stays("chain(6, -1): -2 is asked first", Bounds::withPapers, x -> x.chain(6, -1), -2);
    }

    private static void chainOfOneToFive() {
        // III: CHAIN: from one HOUSE to five; OWNER: the last one
        for (int houses = 1; houses <= 5; houses++) {
            ReceiptLeft x = row(houses, false);
            for (int i = 0; i < houses; i++) {
                T.due("chain(0, " + i + ") of " + houses, x.chain(0, i), houses - 1 - i);
            }
            T.due("chain(0, " + houses + ") of so many", x.chain(0, houses), -1);
            T.due("owner(0) of " + houses, x.owner(0), 0);
            T.due("rings() of " + houses, x.rings(), 0);
            T.due("strikes() of " + houses, x.strikes(), 0);
        }
    }

    private static void ringsOfTwoToFive() {
        // III: RING: a HOUSE comes a second time (there the CHAIN ends; no OWNER); 22: of a RING each once
        for (int houses = 2; houses <= 5; houses++) {
            ReceiptLeft x = row(houses, true);
            T.due("chain(0, 0) of a RING of " + houses, x.chain(0, 0), 0);
            for (int i = 1; i < houses; i++) {
                T.due("chain(0, " + i + ") of a RING of " + houses, x.chain(0, i), houses - i);
            }
            T.due("chain(0, " + houses + ") of a RING of so many", x.chain(0, houses), -1);
            T.due("owner(0) of a RING of " + houses, x.owner(0), -1);
            T.due("rings() of a RING of " + houses, x.rings(), 1);
            T.due("strikes() of a RING of " + houses, x.strikes(), 1);
            T.due("struck() of a RING of " + houses, x.struck(), 1);
            T.due("twice() of a RING of " + houses, x.twice(), 0);
            for (int house = 0; house < 5; house++) {
                T.due("owns(" + house + ") without it", x.owns(house) & 1, 0);
            }
        }
    }

    private static void ringOfATail() {
        // III: it need not be the first HOUSE that comes a second time
        ReceiptLeft x = row(3, true);
        x.steal(3, 0, 60);
        x.steal(4, 0, 60);
        int[] chain = {4, 3, 0, 2, 1, -1};
        for (int i = 0; i < chain.length; i++) {
            T.due("chain(0, " + i + ") of a tail and a RING", x.chain(0, i), chain[i]);
        }
        T.due("owner(0) of a tail and a RING", x.owner(0), -1);
        T.due("rings() of a tail and a RING", x.rings(), 1);
    }

    private static void ringOfTheLastTwo() {
        // III: a RING by which HOUSE 0 does not come
        ReceiptLeft x = Bounds.made(BoundsTitlesTest::five);
        x.steal(3, 0, 60);
        x.steal(4, 0, 60);
        x.steal(3, 0, 60);
        T.due("chain(0, 0)", x.chain(0, 0), 3);
        T.due("chain(0, 1)", x.chain(0, 1), 4);
        T.due("chain(0, 2)", x.chain(0, 2), -1);
        T.due("owner(0)", x.owner(0), -1);
        T.due("rings()", x.rings(), 1);
    }

    private static void ringsOfAll() {
        // 23: THINGS whose CHAINS are RINGS, as bits: none, the last, all
        ReceiptLeft x = Bounds.made(BoundsTitlesTest::five);
        T.due("none", x.rings(), 0);
        for (int thing = 5; thing >= 0; thing--) {
            x.steal(1, thing, 60);
            x.steal(0, thing, 60);
            T.due("from " + thing + " on", x.rings(), 0b111111 & -1 << thing);
        }
    }

    private static void chainByTheLatest() {
        // III: behind a HOUSE the HOLDER of the latest OPEN PAPER of that THIEF and THING
        ReceiptLeft x = Bounds.made(BoundsTitlesTest::five);
        x.steal(1, 0, 60);
        x.steal(2, 0, 60);
        x.steal(1, 0, 1);
        x.sell(0, 3);
        x.sell(2, 4);
        T.due("the latest, not the first due", x.chain(0, 1), 4);
        T.due("its owner", x.owner(0), 4);
        x.strike(2);
        T.due("without it the one ahead", x.chain(0, 1), 3);
    }

    private static void chainWithoutClosedOnes() {
        // III: OPEN PAPERS alone
        ReceiptLeft x = Checks.told("city eats 0 carry 6 odds 0;house purse 5;house purse 9;house purse 0;house purse 0;thing at 0 worth 9;");
        x.steal(1, 0, 1);
        x.steal(2, 0, 1);
        x.steal(3, 0, 60);
        x.sell(2, 1);
        T.due("ahead of the NIGHT: 3, 1, 0", x.owner(0), 0);
        x.night();
        T.due("1 has nothing left: FAILED", x.paper(0, 4), 3);
        T.due("2 was paid for the sale: PAID", x.paper(1, 4), 2);
        T.due("behind the NIGHT: 3, 1", x.owner(0), 1);
        T.due("chain(0, 2)", x.chain(0, 2), -1);
    }

    private static void chainWithoutThoseTakenBack() {
        // III, 18: a PAPER that was taken back is none
        ReceiptLeft x = Bounds.made(BoundsTitlesTest::five);
        x.steal(1, 0, 60);
        x.steal(2, 0, 60);
        x.steal(1, 0, 60);
        T.due("with it a RING", x.rings(), 1);
        x.undo();
        T.due("chain(0, 1)", x.chain(0, 1), 1);
        T.due("chain(0, 2)", x.chain(0, 2), 0);
        T.due("owner(0)", x.owner(0), 0);
        T.due("twice()", x.twice(), 0);
        T.due("strikes()", x.strikes(), 0);
    }

    private static void chainOf24() {
        // III: by the last of 24 PAPERS
        ReceiptLeft x = Bounds.made(Bounds::crowded);
        T.due("chain(0, 0)", x.chain(0, 0), 0);
        T.due("chain(0, 1)", x.chain(0, 1), 1);
        T.due("chain(0, 2)", x.chain(0, 2), -1);
        T.due("rings()", x.rings(), 1);
        x.sell(23, 3);
        T.due("owner(0), the last one sold", x.owner(0), 3);
        T.due("owns(3)", x.owns(3), 0b001001);
    }

    private static void chainWithoutHisOwn() {
        // III: (those that he holds himself aside)
        ReceiptLeft x = Bounds.made(BoundsTitlesTest::five);
        x.steal(1, 0, 60);
        x.sell(0, 1);
        T.due("chain(0, 1)", x.chain(0, 1), -1);
        T.due("owner(0)", x.owner(0), 1);
        T.due("rings()", x.rings(), 0);
        T.due("strikes()", x.strikes(), 0);
    }

    private static void ownsOfNoneSuch() {
        // 24: -2: there is none such
        B.edges("owns", Bounds::withPapers, (x, n) -> x.owns(n), 0, 4, -2);
        B.never("owns without HOUSES", Bounds::headAlone, (x, n) -> x.owns(n), -2);
    }

    private static void ownsNoneOrAll() {
        // 24: as bits: none, all
        ReceiptLeft x = Bounds.made(BoundsTitlesTest::five);
        T.due("all", x.owns(0), 0b111111);
        T.due("none", x.owns(4), 0);
        x.steal(4, 5, 60);
        T.due("all, though one is elsewhere", x.owns(0), 0b111111);
        x.strike(0);
        T.due("all but the last", x.owns(0), 0b011111);
        T.due("the last", x.owns(4), 0b100000);
    }

    private static void twiceOfPairs() {
        // III, 25: pairs of two OPEN PAPERS of one THIEF and THING: of 24 PAPERS, twelve each
        T.due("of 24", Bounds.made(Bounds::crowded).twice(), 2 * 66);
        ReceiptLeft x = Bounds.made(BoundsTitlesTest::five);
        int[] pairs = {0, 0, 1, 2, 4, 6};
        for (int i = 0; i < 6; i++) {
            x.steal(1 - i % 2, 0, 60);
            T.due("of " + (i + 1), x.twice(), pairs[i]);
        }
        x.steal(1, 1, 60);
        T.due("another THING is none", x.twice(), 6);
        x.strike(0);
        T.due("a closed one is none", x.twice(), 4);
        ReceiptLeft y = Bounds.made(BoundsTitlesTest::five);
        y.steal(1, 5, 60);
        y.steal(1, 0, 60);
        T.due("one THIEF, two THINGS", y.twice(), 0);
        y.steal(2, 0, 60);
        T.due("two THIEVES, one THING", y.twice(), 0);
    }

    private static void twiceHeldByOthers() {
        // III: TWICE: (held by others)
        ReceiptLeft x = Bounds.made(BoundsTitlesTest::five);
        x.steal(1, 0, 60);
        x.steal(2, 0, 60);
        x.steal(1, 0, 60);
        T.due("two of 1", x.twice(), 1);
        x.sell(0, 3);
        T.due("of two HOLDERS", x.twice(), 1);
        x.sell(0, 1);
        T.due("one is his own", x.twice(), 0);
        x.sell(2, 1);
        T.due("both are his own", x.twice(), 0);
        x.sell(0, 3);
        T.due("the later one is", x.twice(), 0);
        x.sell(2, 3);
        T.due("none is", x.twice(), 1);
        x.strike(2);
        T.due("the later one is STRUCK", x.twice(), 0);
        T.due("then all is CLEAN", x.strikes(), 0);
    }

    private static void strikesOfNone() {
        // 26, 27: none, if all is CLEAN
        T.due("strikes() of three", Bounds.made(Bounds::withPapers).strikes(), 0);
        T.due("struck() of three", Bounds.made(Bounds::withPapers).struck(), 0);
        T.due("strikes() of one, HOUSE 0's", Bounds.made(x -> {
            Bounds.full(x);
            x.steal(0, 1, 9);
        }).strikes(), 0);
        T.due("strikes() of closed ones", Bounds.made(Bounds::hows).strikes(), 0);
        T.due("struck() of closed ones", Bounds.made(Bounds::hows).struck(), 0);
    }

    private static void strikesOfAllButOne() {
        // 26, 27: of 24 PAPERS between two HOUSES one can stay: the last
        ReceiptLeft x = Bounds.made(Bounds::crowded);
        T.due("strikes() of 24", x.strikes(), 23);
        T.due("struck() of 24", x.struck(), 0x7FFFFF);
        // nothing is struck by asking
        T.due("OPEN ones", x.now(1), 0xFFFFFF);
    }

    private static void strikesTheLeastSet() {
        // 27: the least set of so few
        ReceiptLeft x = Bounds.made(BoundsTitlesTest::five);
        x.steal(1, 0, 60);
        x.steal(0, 0, 60);
        x.steal(2, 1, 60);
        x.steal(0, 1, 60);
        x.steal(2, 1, 60);
        // THING 0: 0 or 1; THING 1: 2 and 4 are TWICE, 3 is a RING with each
        T.due("strikes()", x.strikes(), 3);
        T.due("struck()", x.struck(), 0b01101);
        x.undo();
        T.due("strikes() of two RINGS", x.strikes(), 2);
        T.due("struck() of two RINGS", x.struck(), 0b0101);
        x.undo();
        T.due("strikes() of one RING", x.strikes(), 1);
        T.due("struck() of one RING", x.struck(), 0b001);
    }

    private static void strikesTheFewestFirst() {
        // 26, 27: the fewest ahead of the least: the last one alone, though the two ahead of it are a lesser set
        ReceiptLeft x = Bounds.made(BoundsTitlesTest::five);
        x.steal(1, 0, 60);
        x.steal(2, 0, 60);
        x.steal(1, 0, 60);
        // 0 and 2 are TWICE, 1 and 2 lead back
        T.due("strikes()", x.strikes(), 1);
        T.due("struck()", x.struck(), 0b100);
        x.strike(2);
        T.due("then all is CLEAN", x.strikes(), 0);
    }

    private static void strikesOfRingsAside() {
        // III: CLEAN: no THING's OPEN PAPERS lead back to a HOUSE, though its CHAIN comes by none of them
        ReceiptLeft x = row(3, true);
        x.steal(4, 0, 60);
        x.strike(3);
        T.due("rings()", x.rings(), 0);
        T.due("owner(0)", x.owner(0), 4);
        T.due("strikes()", x.strikes(), 1);
        T.due("struck()", x.struck(), 1);
    }

    private static void trailOfNoneSuch() {
        // 28: NONE: there is none such; -2: there is no such THING
        B.edges("trail(n, 0)", Bounds::withPapers, (x, n) -> x.trail(n, 0), 0, 5, -2);
        B.edges("trail(0, n) of two", Bounds::withPapers, (x, n) -> x.trail(0, n), 0, 2, -1);
        B.edges("trail(5, n) of none", Bounds::withPapers, (x, n) -> x.trail(5, n), 0, 0, -1);
        T.due("trail(0, 0) of one told elsewhere", Bounds.made(Bounds::hows).trail(0, 0), 1);
        B.stays("trail(6, 99): -2 is asked first", Bounds::withPapers, x -> x.trail(6, 99), -2);
    }

    private static void trailOfMost() {
        // 28, 29: one behind the other, the last one now (each time it went): 24 thefts and 24 returns
        ReceiptLeft x = Bounds.made(Bounds::crowded);
        for (int paper = 23; paper >= 0; paper--) {
            x.brings(paper);
        }
        T.due("went(0)", x.went(0), 48);
        for (int i = 0; i <= 48; i++) {
            T.due("trail(0, " + i + ")", x.trail(0, i), i % 2);
        }
        T.due("trail(0, 49)", x.trail(0, 49), -1);
        T.due("trail(0, -1)", x.trail(0, -1), -1);
        T.due("trail(1, 0)", x.trail(1, 0), 1);
        T.due("trail(1, 1)", x.trail(1, 1), -1);
        x.anew();
        T.due("trail(0, 0) anew", x.trail(0, 0), 0);
        T.due("trail(0, 1) anew", x.trail(0, 1), -1);
    }

    private static void wentOfNoneSuch() {
        // 29: -2: there is none such
        B.edges("went", Bounds::withPapers, (x, n) -> x.went(n), 0, 5, -2);
        B.never("went without THINGS", Bounds::noThings, (x, n) -> x.went(n), -2);
    }

    private static void wentToAnotherOne() {
        // 29: How often a THING went from a HOUSE to another one: to his own it goes not
        ReceiptLeft x = Bounds.made(BoundsTitlesTest::five);
        x.steal(1, 0, 2);
        x.sell(0, 1);
        x.night();
        T.due("ahead of its DAY", x.went(0), 1);
        x.night();
        T.due("RETURNED to himself", x.paper(0, 4), 1);
        T.due("it went once", x.went(0), 1);
        T.due("its trail", x.trail(0, 1), 1);
        T.due("no more", x.trail(0, 2), -1);
    }

    private static void liesOfNoneSuch() {
        // 30: -2: there is no such HOUSE
        B.edges("lies", Bounds::withPapers, (x, n) -> x.lies(n), 0, 4, -2);
        B.never("lies without HOUSES", Bounds::headAlone, (x, n) -> x.lies(n), -2);
    }

    private static void liesNoneOrAll() {
        // 30: THINGS in another HOUSE that is not locked now, as bits
        ReceiptLeft x = Bounds.made(BoundsTitlesTest::five);
        T.due("none of its own", x.lies(0), 0);
        for (int house = 1; house < 5; house++) {
            T.due("all, to " + house, x.lies(house), 0b111111);
        }
        x.lock(0, 1);
        T.due("none, when it is locked", x.lies(4), 0);
        x.lock(4, 1);
        x.lock(0, 0);
        T.due("one's own lock is no hindrance", x.lies(4), 0b111111);
        x.steal(4, 5, 60);
        T.due("the last is its own", x.lies(4), 0b011111);
        T.due("and locked up", x.lies(1), 0b011111);
        T.due("from its first HOUSE too", x.lies(0), 0);
        x.lock(4, 0);
        T.due("and not", x.lies(0), 0b100000);
    }

    private static void poorestOfSeveral() {
        // 31: the first of several; NONE: there are none
        String head = "city eats 0 carry 1 odds 0;";
        T.due("none", Checks.told(head).poorest(), -1);
        T.due("one", Checks.told(head + "house purse 9999;").poorest(), 0);
        T.due("five alike", Checks.told(head + "house purse 9;".repeat(5)).poorest(), 0);
        T.due("the last", Checks.told(head + "house purse 9;".repeat(4) + "house purse 8;").poorest(), 4);
        T.due("the first of two", Checks.told(head + "house purse 9;house purse 8;house purse 9;house purse 8;").poorest(), 1);
    }

    private static void poorestBelowNothing() {
        // 31, II: of least NET, which may be below 0
        ReceiptLeft x = Checks.told("city eats 0 carry 1 odds 0;house purse 0;house purse 0;house purse 0;house purse 0;thing at 0 worth 999;");
        T.due("the first of three with nothing", x.poorest(), 1);
        x.steal(3, 0, 60);
        x.steal(2, 0, 60);
        T.due("they weigh each other out: 0 holds one", x.poorest(), 1);
        x.strike(1);
        T.due("NET of 3", x.net(3), -999);
        T.due("the debtor", x.poorest(), 3);
    }
}
