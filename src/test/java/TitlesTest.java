/** Promises 21 to 31: owners, chains, rings, contradictions, trails, what lies open, the poorest. */
public final class TitlesTest {
    private static final Checks T = new Checks("TitlesTest");
    private static final String FIVE = "city eats 0 carry 6 odds 0;house purse 100;house purse 100;house purse 100;"
        + "house purse 100;house purse 100;thing at 0 worth 10;thing at 1 worth 20;";

    public static void main(String[] args) {
        chains();
        ownPapers();
        rings();
        contradictions();
        fewest();
        trails();
        lies();
        poorest();
        noSuch();
        T.finish();
    }

    private static void chains() {
        ReceiptLeft x = Checks.told(FIVE);
        T.due("owner with no papers", x.owner(0), 0);
        T.due("chain(0, 0) with no papers", x.chain(0, 0), 0);
        T.due("chain(0, 1) with no papers", x.chain(0, 1), -1);
        x.steal(2, 0, 9);
        x.steal(4, 0, 9);
        T.due("chain(0, 0)", x.chain(0, 0), 4);
        T.due("chain(0, 1)", x.chain(0, 1), 2);
        T.due("chain(0, 2)", x.chain(0, 2), 0);
        T.due("chain(0, 3)", x.chain(0, 3), -1);
        T.due("chain(0, -1)", x.chain(0, -1), -1);
        T.due("owner(0)", x.owner(0), 0);
        T.due("owns(0)", x.owns(0), 0b01);
        T.due("owns(4)", x.owns(4), 0);
        x.sell(0, 3);
        T.due("owner of a sold paper", x.owner(0), 3);
        T.due("owns(3)", x.owns(3), 0b01);
        x.strike(0);
        T.due("owner behind a strike", x.owner(0), 2);
        // the latest of two papers of one thief and thing counts
        ReceiptLeft y = Checks.told(FIVE);
        y.steal(2, 0, 9);
        y.steal(1, 0, 9);
        y.steal(2, 0, 9);
        T.due("chain by the latest, 0", y.chain(0, 0), 2);
        T.due("chain by the latest, 1", y.chain(0, 1), 1);
        T.due("chain by the latest, 2: a ring", y.chain(0, 2), -1);
        T.due("a ring has no owner", y.owner(0), -1);
        y.strike(2);
        T.due("owner by the earlier one", y.owner(0), 0);
    }

    private static void ownPapers() {
        ReceiptLeft x = Checks.told(FIVE);
        x.steal(2, 0, 9);
        x.sell(0, 2);
        T.due("owner, who holds his own paper", x.owner(0), 2);
        T.due("twice", x.twice(), 0);
        ReceiptLeft y = Checks.told(FIVE);
        y.steal(2, 0, 9);
        y.steal(1, 0, 9);
        y.steal(2, 0, 9);
        y.sell(2, 2);
        T.due("chain, his own aside, 1", y.chain(0, 1), 0);
        T.due("owner, his own aside", y.owner(0), 0);
        T.due("twice, his own aside", y.twice(), 0);
        T.due("strikes, his own aside", y.strikes(), 0);
        T.due("rings, his own aside", y.rings(), 0);
    }

    private static void rings() {
        ReceiptLeft x = Checks.told(FIVE);
        x.steal(2, 0, 9);
        T.due("rings() of none", x.rings(), 0);
        x.steal(0, 0, 9);
        T.due("rings()", x.rings(), 0b01);
        T.due("owner", x.owner(0), -1);
        T.due("chain(0, 0)", x.chain(0, 0), 0);
        T.due("chain(0, 1)", x.chain(0, 1), 2);
        T.due("chain(0, 2)", x.chain(0, 2), -1);
        T.due("owns(0), without it", x.owns(0), 0);
        // a tail that leads into a ring, the other thing too
        x.steal(4, 0, 9);
        T.due("a tail, 0", x.chain(0, 0), 4);
        T.due("a tail, 2", x.chain(0, 2), 2);
        T.due("a tail, 3", x.chain(0, 3), -1);
        T.due("a tail has no owner", x.owner(0), -1);
        x.steal(0, 1, 9);
        x.steal(1, 1, 9);
        T.due("both", x.rings(), 0b11);
        // all five
        ReceiptLeft y = Checks.told(FIVE);
        for (int house = 1; house <= 5; house++) {
            y.steal(house % 5, 0, 9);
        }
        T.due("a ring of five", y.rings(), 1);
        T.due("its last", y.chain(0, 4), 1);
        T.due("none behind", y.chain(0, 5), -1);
        T.due("one is to be struck", y.strikes(), 1);
        T.due("the first", y.struck(), 1);
    }

    private static void contradictions() {
        ReceiptLeft x = Checks.told(FIVE);
        for (int i = 0; i < 6; i++) {
            x.steal(1 - i % 2, 0, 9);
        }
        // three of 1 (held by 0), three of 0 (held by 1)
        T.due("twice()", x.twice(), 6);
        T.due("strikes()", x.strikes(), 5);
        T.due("struck()", x.struck(), 0b011111);
        x.strike(0);
        T.due("twice() behind a strike", x.twice(), 4);
        x.steal(0, 1, 9);
        T.due("another thing is none", x.twice(), 4);
    }

    private static void fewest() {
        // 1: {0 held by 0, 2 held by 2, 4 held by 3}; 2: {1 held by 1}; 3: {3 held by 1}
        ReceiptLeft x = Checks.told(FIVE);
        x.steal(1, 0, 9);
        x.steal(2, 0, 9);
        x.steal(1, 0, 9);
        x.steal(3, 0, 9);
        x.steal(1, 0, 9);
        T.due("twice()", x.twice(), 3);
        // kept at most: one of 1's, and 2's, 3's: only by 0's is there no ring
        T.due("strikes()", x.strikes(), 2);
        T.due("struck()", x.struck(), 0b10100);
        x.sell(0, 2);
        // now 1's lead to 2, 2, 3, a ring each: two can be kept, and of 1 and 4, 2 and 3, .. the first is the greatest
        T.due("strikes(), all ring", x.strikes(), 3);
        T.due("struck(), all ring", x.struck(), 0b01101);
        ReceiptLeft alone = Checks.told("city eats 0 carry 1 odds 0;house purse 0;house purse 0;house purse 0;thing at 2 worth 9;");
        T.due("trail(0, 0), told so", alone.trail(0, 0), 2);
        alone.steal(1, 0, 9);
        alone.steal(0, 0, 9);
        T.due("strikes() of one thing", alone.strikes(), 0);
        alone.steal(1, 0, 9);
        // 0 and 2 are twice; 1 and 2 ring
        T.due("strikes() of one thing, two thefts more", alone.strikes(), 1);
        T.due("struck() of one thing", alone.struck(), 0b100);
        ReceiptLeft y = Checks.told(FIVE);
        T.due("strikes() of nothing", y.strikes(), 0);
        T.due("struck() of nothing", y.struck(), 0);
        // both things are made clean
        y.steal(1, 0, 9);
        y.steal(0, 0, 9);
        y.steal(0, 1, 9);
        y.steal(1, 1, 9);
        T.due("strikes() of two", y.strikes(), 2);
        T.due("struck() of two", y.struck(), 0b0101);
        // a ring of papers that the CHAIN does not come by is not CLEAN either
        ReceiptLeft z = Checks.told(FIVE);
        z.steal(1, 0, 9);
        z.steal(0, 0, 9);
        z.steal(2, 0, 9);
        z.strike(2);
        T.due("rings() now", z.rings(), 0);
        T.due("strikes() of papers aside", z.strikes(), 1);
        T.due("struck() of papers aside", z.struck(), 1);
    }

    private static void trails() {
        ReceiptLeft x = Checks.told(FIVE);
        T.due("trail(0, 0)", x.trail(0, 0), 0);
        T.due("trail(0, 1)", x.trail(0, 1), -1);
        T.due("went(0)", x.went(0), 0);
        x.steal(3, 0, 1);
        x.night();
        x.steal(3, 0, 2);
        x.steal(4, 0, 9);
        int[] was = {0, 3, 0, 3, 4};
        for (int i = 0; i < was.length; i++) {
            T.due("trail(0, " + i + ") behind these", x.trail(0, i), was[i]);
        }
        T.due("trail(0, 5)", x.trail(0, 5), -1);
        T.due("trail(0, -1)", x.trail(0, -1), -1);
        T.due("went(0) behind these", x.went(0), 4);
        T.due("went(1) behind these", x.went(1), 0);
        T.due("trail(1, 0)", x.trail(1, 0), 1);
    }

    private static void lies() {
        ReceiptLeft x = Checks.told("city eats 0 carry 1 odds 0;house purse 0;house purse 0 locked;house purse 0;"
            + "thing at 0 worth 1;thing at 1 worth 1;thing at 2 worth 1;");
        T.due("lies(0)", x.lies(0), 0b100);
        T.due("lies(1)", x.lies(1), 0b101);
        T.due("lies(2)", x.lies(2), 0b001);
        x.lock(1, 0);
        T.due("lies(0) behind a lock", x.lies(0), 0b110);
        x.steal(0, 2, 9);
        T.due("lies(0) behind a theft", x.lies(0), 0b010);
        T.due("lies(1) behind a theft", x.lies(1), 0b101);
    }

    private static void poorest() {
        ReceiptLeft x = Checks.told("city eats 0 carry 1 odds 0;house purse 30;house purse 20;house purse 20;"
            + "thing at 1 worth 9;thing at 2 worth 9;");
        T.due("poorest(), the first of several", x.poorest(), 1);
        x.rate(0, 10);
        T.due("poorest()", x.poorest(), 2);
        x.rate(0, 999);
        x.rate(1, 999);
        T.due("poorest(), the first", x.poorest(), 0);
        T.due("poorest() of none", Checks.told("city eats 0 carry 1 odds 0;").poorest(), -1);
        // below nothing
        ReceiptLeft y = Checks.told("city eats 0 carry 1 odds 0;house purse 0;house purse 0;house purse 0;thing at 2 worth 9;");
        y.steal(1, 0, 9);
        y.steal(0, 0, 9);
        y.strike(1);
        T.due("net(1)", y.net(1), -9);
        T.due("poorest() of a debtor", y.poorest(), 1);
    }

    private static void noSuch() {
        ReceiptLeft x = Checks.told(FIVE);
        T.due("owner(2)", x.owner(2), -2);
        T.due("owner(-1)", x.owner(-1), -2);
        T.due("chain(2, 0)", x.chain(2, 0), -2);
        T.due("owns(5)", x.owns(5), -2);
        T.due("owns(-1)", x.owns(-1), -2);
        T.due("trail(2, 0)", x.trail(2, 0), -2);
        T.due("went(2)", x.went(2), -2);
        T.due("went(-1)", x.went(-1), -2);
        T.due("lies(5)", x.lies(5), -2);
        T.due("lies(-1)", x.lies(-1), -2);
        ReceiptLeft y = new ReceiptLeft();
        T.due("rings() with no city", y.rings(), -2);
        T.due("twice() with no city", y.twice(), -2);
        T.due("strikes() with no city", y.strikes(), -2);
        T.due("struck() with no city", y.struck(), -2);
        T.due("poorest() with no city", y.poorest(), -2);
        T.due("owner(0) with no city", y.owner(0), -2);
    }
}
