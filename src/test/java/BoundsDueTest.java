/** Boundary cases of promises 32 to 41: each sentence by a method of its own. */
public final class BoundsDueTest {
    private static final Checks T = new Checks("BoundsDueTest");
    private static final Bounds B = new Bounds(T);
    private static final String HEAD = "city eats 0 carry 1 odds 0;";

    public static void main(String[] args) {
        dueOfNoneSuch();
        dueOnItsDayAlone();
        dueOfAll();
        mondayOfNone();
        mondayTheFirstOfSeveral();
        lacksOfNoneSuch();
        lacksOfThoseHeHas();
        lacksOfMost();
        needsOfNoneSuch();
        needsJustSoMuch();
        needsNothingMore();
        needsOfTheLastNight();
        failsOfNoneSuch();
        failsOfNoNight();
        failsUpToItsNight();
        laterOfNoneSuch();
        laterUpToItsNight();
        purseOfNoneSuch();
        purseUpToItsNight();
        nothingElseDone();
        aheadOfTheLastDay();
        runOfNone();
        runOnTheNextDay();
        runByPurse();
        hitOfNoneSuch();
        hitHimselfAside();
        hitsTheLeastOfSeveral();
        hitOfMost();
        T.finish();
    }

    private static void dueOfNoneSuch() {
        // 32: a DAY (0 .. 60); -2: there is none such, no CITY
        B.edges("due", Bounds::withPapers, (x, n) -> x.due(n), 0, 60, -2);
        B.edges("due without HOUSES", Bounds::headAlone, (x, n) -> x.due(n), 0, 60, -2);
        B.never("due with no CITY", Bounds::nothing, (x, n) -> x.due(n), -2);
    }

    private static void dueOnItsDayAlone() {
        // 32: OPEN PAPERS that fall due on a DAY
        ReceiptLeft x = Bounds.made(Bounds::withPapers);
        for (int day = 0; day <= 60; day++) {
            T.due("due(" + day + ")", x.due(day), day == 3 ? 0b001 : day == 5 ? 0b010 : day == 60 ? 0b100 : 0);
        }
        x.strike(0);
        T.due("a STRUCK one", x.due(3), 0);
        ReceiptLeft y = Bounds.made(Bounds::hows);
        T.due("due(1), they are closed", y.due(1), 0);
        T.due("due(9), one is STRUCK", y.due(9), 0b10000);
    }

    private static void dueOfAll() {
        // 32: as bits: all 24
        T.due("due(60) of 24", Bounds.made(Bounds::crowded).due(60), 0xFFFFFF);
        T.due("due(59) of 24", Bounds.made(Bounds::crowded).due(59), 0);
    }

    private static void mondayOfNone() {
        // 33: NONE: none is OPEN; -2: there is no CITY
        B.stays("of a new CITY", Bounds::full, x -> x.monday(), -1);
        B.stays("of STRUCK ones", x -> {
            Bounds.withPapers(x);
            x.strike(0);
            x.strike(1);
            x.strike(2);
        }, x -> x.monday(), -1);
        B.stays("with no CITY", Bounds::nothing, x -> x.monday(), -2);
        T.due("of one OPEN", Bounds.made(Bounds::hows).monday(), 9);
    }

    private static void mondayTheFirstOfSeveral() {
        // 33: The DAY on which most do, the first of several
        ReceiptLeft x = Bounds.made(Bounds::full);
        x.steal(0, 1, 60);
        T.due("the last DAY", x.monday(), 60);
        x.steal(0, 2, 1);
        T.due("the first of two", x.monday(), 1);
        x.steal(0, 3, 60);
        T.due("that of two PAPERS", x.monday(), 60);
        x.steal(1, 0, 1);
        T.due("the first of two again", x.monday(), 1);
    }

    private static void lacksOfNoneSuch() {
        // 34: -2: there is none such
        B.edges("lacks", Bounds::withPapers, (x, n) -> x.lacks(n), 0, 4, -2);
        B.never("lacks without HOUSES", Bounds::headAlone, (x, n) -> x.lacks(n), -2);
    }

    private static void lacksOfThoseHeHas() {
        // 34: OPEN PAPERS of a THIEF of which he has not the THING: also those that he holds
        ReceiptLeft x = Bounds.made(Bounds::withPapers);
        T.due("he has it", x.lacks(0), 0);
        T.due("he has it not", x.lacks(1), 40);
        T.due("he has it from another", x.lacks(2), 0);
        x.sell(1, 1);
        T.due("he holds it himself", x.lacks(1), 40);
        x.strike(1);
        T.due("it is STRUCK", x.lacks(1), 0);
    }

    private static void lacksOfMost() {
        // 34: the worth of many
        ReceiptLeft x = Bounds.made(Bounds::crowded);
        T.due("lacks(1), 0 has the THING", x.lacks(1), 12 * 40);
        T.due("lacks(0), he has it", x.lacks(0), 0);
        x.undo();
        T.due("lacks(0), 1 has it", x.lacks(0), 11 * 40);
    }

    private static void needsOfNoneSuch() {
        // 35: -2: there is none such
        B.edges("needs", Bounds::withPapers, (x, n) -> x.needs(n), 0, 4, -2);
        B.never("needs without HOUSES", Bounds::headAlone, (x, n) -> x.needs(n), -2);
    }

    /** HOUSE 1 has a purse and owes 9 on DAY 2 and 5 on DAY 3, and is paid 4 between them by HOUSE 3, which has 4. */
    private static ReceiptLeft debtor(int purse) {
        ReceiptLeft x = Checks.told(HEAD + "house purse 0;house purse " + purse + ";house purse 0;house purse 4;"
            + "thing at 0 worth 9;thing at 0 worth 5;thing at 1 worth 4;");
        x.steal(1, 0, 2);
        x.steal(1, 1, 3);
        x.steal(3, 2, 2);
        x.steal(2, 0, 60);
        x.steal(2, 1, 59);
        x.steal(2, 2, 58);
        return x;
    }

    private static void needsJustSoMuch() {
        // 35: the least purse so that no PAPER of it FAILS: with it none does, with one less one does
        T.due("needs(1)", debtor(0).needs(1), 10);
        T.due("needs(1), whatever it has", debtor(9999).needs(1), 10);
        T.due("with so much none FAILS", debtor(10).fails(60) & 0b011, 0);
        T.due("with one less one does", debtor(9).fails(60) & 0b011, 0b010);
        T.due("with too little for the first", debtor(8).fails(60) & 0b011, 0b001);
        T.due("needs(3)", debtor(0).needs(3), 4);
    }

    private static void needsNothingMore() {
        // 35: 0 at least: he has the THING, or owes nothing
        T.due("he brings it", Bounds.made(Bounds::withPapers).needs(2), 0);
        T.due("he owes nothing", Bounds.made(Bounds::withPapers).needs(4), 0);
        T.due("what others owe is no matter", debtor(0).needs(0), 0);
        T.due("closed ones are no matter", Bounds.made(Bounds::hows).needs(0), 0);
        T.due("carry one a NIGHT, pay for the other", Bounds.made(x -> {
            Bounds.tell(x, HEAD + "house purse 0;house purse 0;thing at 0 worth 9;thing at 0 worth 7;");
            x.steal(1, 0, 1);
            x.steal(1, 1, 1);
        }).needs(1), 7);
    }

    private static void needsOfTheLastNight() {
        // 35: in 60 NIGHTS from now on: DAY 60 is within them on each DAY
        ReceiptLeft x = Checks.told(HEAD + "house purse 0;house purse 0;house purse 0;thing at 0 worth 999;");
        x.steal(1, 0, 60);
        x.steal(2, 0, 60);
        T.due("on DAY 0", x.needs(1), 999);
        for (int i = 0; i < 58; i++) {
            x.night();
        }
        T.due("on DAY 58", x.needs(1), 999);
    }

    private static void failsOfNoneSuch() {
        // 36: n (0 .. 60); -2: there is no such n, no CITY
        B.edges("fails", Bounds::withPapers, (x, n) -> x.fails(n), 0, 60, -2);
        B.edges("fails without HOUSES", Bounds::headAlone, (x, n) -> x.fails(n), 0, 60, -2);
        B.never("fails with no CITY", Bounds::nothing, (x, n) -> x.fails(n), -2);
    }

    private static void failsOfNoNight() {
        // 36: 0 NIGHTS: none
        ReceiptLeft x = debtor(0);
        T.due("fails(0)", x.fails(0), 0);
        x.night();
        x.night();
        T.due("some have FAILED", x.now(2), 1);
        T.due("fails(0) does not tell of them", x.fails(0), 0);
        T.due("fails(60) neither", x.fails(60) & 0b001, 0);
    }

    private static void failsUpToItsNight() {
        // 36: PAPERS that FAIL in n NIGHTS from now on
        ReceiptLeft x = debtor(0);
        T.due("fails(1)", x.fails(1), 0);
        T.due("fails(2)", x.fails(2), 0b001);
        T.due("fails(3)", x.fails(3), 0b011);
        x.night();
        T.due("fails(1) a DAY later", x.fails(1), 0b001);
        T.due("fails(2) a DAY later", x.fails(2), 0b011);
    }

    private static void laterOfNoneSuch() {
        // 37: -2: there are none such
        B.edges("later(n, 60)", Bounds::withPapers, (x, n) -> x.later(n, 60), 0, 5, -2);
        B.edges("later(0, n)", Bounds::withPapers, (x, n) -> x.later(0, n), 0, 60, -2);
        B.never("later(n, 0) without THINGS", Bounds::noThings, (x, n) -> x.later(n, 0), -2);
    }

    private static void laterUpToItsNight() {
        // 37: The HOUSE in which a THING is behind these
        ReceiptLeft x = Bounds.made(Bounds::withPapers);
        T.due("later(1, 0)", x.later(1, 0), 0);
        T.due("later(1, 2)", x.later(1, 2), 0);
        T.due("later(1, 3)", x.later(1, 3), 1);
        T.due("later(0, 59)", x.later(0, 59), 2);
        T.due("later(0, 60)", x.later(0, 60), 1);
        T.due("later(5, 60), which never goes", x.later(5, 60), 0);
    }

    private static void purseOfNoneSuch() {
        // 38: -2: there are none such
        B.edges("purse(n, 60)", Bounds::withPapers, (x, n) -> x.purse(n, 60), 0, 4, -2);
        B.edges("purse(0, n)", Bounds::withPapers, (x, n) -> x.purse(0, n), 0, 60, -2);
        B.never("purse(n, 0) without HOUSES", Bounds::headAlone, (x, n) -> x.purse(n, 0), -2);
    }

    private static void purseUpToItsNight() {
        // 38: The purse of a HOUSE behind these
        ReceiptLeft x = debtor(10);
        int[] purse = {10, 10, 5, 0};
        for (int n = 0; n < 4; n++) {
            T.due("purse(1, " + n + ")", x.purse(1, n), purse[n]);
        }
        T.due("purse(3, 1)", x.purse(3, 1), 4);
        T.due("purse(3, 60)", x.purse(3, 60), 0);
        T.due("purse(0, 60)", x.purse(0, 60), 14);
    }

    private static void nothingElseDone() {
        // 35 to 39: nothing else done: nor is anything by asking
        B.stays("needs", Bounds::withPapers, x -> x.needs(1), 40);
        B.stays("fails", Bounds::withPapers, x -> x.fails(60), 0);
        B.stays("later", Bounds::withPapers, x -> x.later(0, 60), 1);
        B.stays("purse", Bounds::withPapers, x -> x.purse(1, 60), 160);
        B.stays("run", Bounds::withPapers, x -> x.run(), 0);
    }

    private static void aheadOfTheLastDay() {
        // 36 to 38: NIGHTS ahead are no acts: 60 of them behind DAY 60, with 60 acts
        ReceiptLeft x = Bounds.made(Bounds::full);
        for (int i = 0; i < 59; i++) {
            x.night();
        }
        x.steal(2, 0, 60);
        T.due("60 acts", x.count(6), 60);
        T.due("later(0, 1)", x.later(0, 1), 0);
        T.due("later(0, 60)", x.later(0, 60), 0);
        T.due("fails(60)", x.fails(60), 0);
        T.due("purse(3, 60)", x.purse(3, 60), 9999);
        T.due("needs(2)", x.needs(2), 0);
        T.due("run()", x.run(), 0);
    }

    private static void runOfNone() {
        // 39: -2: there is no CITY; none FAILS
        B.stays("run() with no CITY", Bounds::nothing, x -> x.run(), -2);
        B.stays("run() of no PAPERS", Bounds::full, x -> x.run(), 0);
        B.stays("run() of closed ones but one", Bounds::hows, x -> x.run(), 0);
    }

    private static void runOnTheNextDay() {
        // 39: if all OPEN PAPERS of all fell due on the next DAY, by numbers
        ReceiptLeft x = Checks.told(HEAD + "house purse 0;house purse 0;house purse 0;thing at 0 worth 9;thing at 0 worth 9;");
        x.steal(1, 0, 30);
        x.steal(1, 1, 60);
        T.due("each on its DAY", x.fails(60), 0);
        T.due("both on one: one is carried", x.run(), 0b010);
        x.steal(2, 0, 59);
        T.due("it is brought back too late", x.run(), 0b010);
        T.due("which FAIL is not told: HOUSES are", Bounds.made(y -> {
            Bounds.tell(y, HEAD + "house purse 0;".repeat(5) + "thing at 0 worth 9;");
            for (int house = 1; house < 5; house++) {
                y.steal(house, 0, 60);
            }
        }).run(), 0b01110);
    }

    private static void runByPurse() {
        // 39: just so much is enough
        for (int purse = 6; purse <= 7; purse++) {
            ReceiptLeft x = Checks.told(HEAD + "house purse 0;house purse " + purse + ";thing at 0 worth 9;thing at 0 worth 7;");
            x.steal(1, 0, 30);
            x.steal(1, 1, 60);
            T.due("run() of a purse of " + purse, x.run(), purse == 7 ? 0 : 0b10);
        }
    }

    private static void hitOfNoneSuch() {
        // 40, 41: -2: there is none such, likewise
        B.edges("hit", Bounds::withPapers, (x, n) -> x.hit(n), 0, 4, -2);
        B.edges("hits", Bounds::withPapers, (x, n) -> x.hits(n), 0, 4, -2);
        B.never("hit without HOUSES", Bounds::headAlone, (x, n) -> x.hit(n), -2);
        B.never("hits without HOUSES", Bounds::headAlone, (x, n) -> x.hits(n), -2);
    }

    private static void hitHimselfAside() {
        // 40, 41: (himself aside); NONE: none holds any
        ReceiptLeft x = Bounds.made(Bounds::withPapers);
        T.due("hit(0)", x.hit(0), 30);
        T.due("hits(0)", x.hits(0), 1);
        T.due("hit(4) of none", x.hit(4), 0);
        T.due("hits(4) of none", x.hits(4), -1);
        x.sell(0, 0);
        T.due("hit(0), his own", x.hit(0), 0);
        T.due("hits(0), his own", x.hits(0), -1);
        T.due("hit(1)", x.hit(1), 40);
        x.strike(1);
        T.due("hit(1), STRUCK", x.hit(1), 0);
        T.due("hits(1), STRUCK", x.hits(1), -1);
    }

    private static void hitsTheLeastOfSeveral() {
        // 41: Which HOUSE, the least of several
        ReceiptLeft x = Checks.told(HEAD + "house purse 0;".repeat(5) + "thing at 4 worth 9;thing at 3 worth 9;thing at 2 worth 8;thing at 1 worth 1;");
        x.steal(0, 0, 9);
        T.due("the last HOUSE", x.hits(0), 4);
        x.steal(0, 1, 9);
        T.due("the least of two", x.hits(0), 3);
        T.due("so much", x.hit(0), 9);
        x.steal(0, 2, 9);
        x.steal(0, 3, 9);
        T.due("less is no matter", x.hits(0), 3);
        x.sell(3, 2);
        T.due("of two PAPERS together", x.hits(0), 3);
        T.due("nothing was paid: it has not so much", x.paper(3, 2), 1);
    }

    private static void hitOfMost() {
        // 40: the worth of many
        ReceiptLeft x = Bounds.made(Bounds::crowded);
        T.due("hit(0)", x.hit(0), 12 * 40);
        T.due("hits(0)", x.hits(0), 1);
        T.due("hit(1)", x.hit(1), 12 * 40);
        T.due("hits(1)", x.hits(1), 0);
    }
}
