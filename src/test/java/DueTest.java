/** Promises 32 to 41: what falls due, what fails, what is needed, runs, who is hit. */
public final class DueTest {
    private static final Checks T = new Checks("DueTest");
    private static final String TEXT = "city eats 10 carry 1 odds 0;house purse 25;house purse 0;house purse 100;"
        + "thing at 0 worth 40;thing at 1 worth 30;thing at 2 worth 7;";

    public static void main(String[] args) {
        dueDays();
        lacks();
        needs();
        needsOfOwnPapers();
        nightsAhead();
        runs();
        hits();
        noSuch();
        T.finish();
    }

    private static void dueDays() {
        ReceiptLeft x = Checks.told(TEXT);
        T.due("monday() of none", x.monday(), -1);
        x.steal(0, 1, 60);
        T.due("monday() of one", x.monday(), 60);
        x.steal(0, 2, 5);
        x.steal(1, 0, 3);
        x.steal(2, 0, 3);
        x.steal(1, 0, 5);
        T.due("due(3)", x.due(3), 0b01100);
        T.due("due(5)", x.due(5), 0b10010);
        T.due("due(60)", x.due(60), 0b00001);
        T.due("due(0)", x.due(0), 0);
        T.due("due(4)", x.due(4), 0);
        T.due("due(61)", x.due(61), -2);
        T.due("due(-1)", x.due(-1), -2);
        T.due("monday(), the first of several", x.monday(), 3);
        x.strike(2);
        T.due("due(3) behind a strike", x.due(3), 0b01000);
        T.due("monday() behind a strike", x.monday(), 5);
    }

    private static void lacks() {
        ReceiptLeft x = Checks.told(TEXT);
        x.steal(1, 0, 9);
        T.due("lacks(1), he has it", x.lacks(1), 0);
        x.steal(2, 0, 9);
        T.due("lacks(1)", x.lacks(1), 40);
        x.steal(0, 0, 9);
        x.steal(1, 2, 9);
        x.steal(0, 2, 9);
        T.due("lacks(1), two", x.lacks(1), 47);
        T.due("lacks(2)", x.lacks(2), 40);
        T.due("lacks(0)", x.lacks(0), 0);
        x.strike(0);
        T.due("lacks(1) behind a strike", x.lacks(1), 7);
    }

    private static void needs() {
        ReceiptLeft x = Checks.told(TEXT);
        T.due("needs(1) of nothing", x.needs(1), 0);
        x.steal(1, 0, 2);
        T.due("needs(1), he has it", x.needs(1), 0);
        x.steal(2, 0, 9);
        T.due("needs(1), he has it not", x.needs(1), 40);
        x.steal(0, 1, 1);
        x.steal(2, 1, 9);
        T.due("needs(1), 0 can't pay him 30", x.needs(1), 40);
        ReceiptLeft y = Checks.told("city eats 0 carry 1 odds 0;house purse 25;house purse 0;house purse 100;"
            + "thing at 0 worth 40;thing at 1 worth 20;");
        y.steal(1, 0, 2);
        y.steal(2, 0, 9);
        y.steal(0, 1, 1);
        y.steal(2, 1, 9);
        T.due("needs(1), 0 pays him 20 ahead", y.needs(1), 20);
        T.due("needs(0)", y.needs(0), 20);
        T.due("needs(2), its things are carried one a night", y.needs(2), 20);
        // he pays ahead of what comes later
        ReceiptLeft z = Checks.told("city eats 0 carry 1 odds 0;house purse 99;house purse 0;house purse 0;"
            + "thing at 0 worth 40;thing at 1 worth 20;");
        z.steal(1, 0, 2);
        z.steal(2, 0, 9);
        z.steal(0, 1, 3);
        z.steal(2, 1, 8);
        T.due("needs(1), paid too late", z.needs(1), 40);
        T.due("needs(2), on two nights", z.needs(2), 0);
        z.night();
        z.night();
        T.due("needs(1), it has failed already", z.needs(1), 0);
        ReceiptLeft w = Checks.told(TEXT);
        w.steal(1, 0, 60);
        w.steal(2, 0, 60);
        T.due("needs(1) in sixty nights", w.needs(1), 40);
        w.anew();
        w.steal(1, 0, 1);
        w.steal(2, 0, 60);
        T.due("needs(1) tomorrow", w.needs(1), 40);
    }

    private static void needsOfOwnPapers() {
        ReceiptLeft x = Checks.told("city eats 0 carry 1 odds 0;house purse 0;house purse 50;house purse 0;thing at 0 worth 40;");
        x.steal(1, 0, 5);
        x.sell(0, 1);
        T.due("needs(1), he has it", x.needs(1), 0);
        x.steal(2, 0, 9);
        T.due("needs(1), to pay himself", x.needs(1), 40);
        T.due("his purse now", x.house(1, 0), 10);
        T.due("fails(5)", x.fails(5), 1);
    }

    private static void nightsAhead() {
        ReceiptLeft x = Checks.told(TEXT);
        x.steal(1, 0, 2);
        x.steal(2, 0, 3);
        x.steal(0, 2, 60);
        T.due("fails(0)", x.fails(0), 0);
        T.due("fails(1)", x.fails(1), 0);
        T.due("fails(2)", x.fails(2), 0b001);
        T.due("fails(60)", x.fails(60), 0b001);
        T.due("later(0, 0)", x.later(0, 0), 2);
        T.due("later(0, 2)", x.later(0, 2), 2);
        T.due("later(0, 3)", x.later(0, 3), 1);
        T.due("later(2, 59)", x.later(2, 59), 0);
        T.due("later(2, 60)", x.later(2, 60), 2);
        T.due("purse(0, 60)", x.purse(0, 60), 25);
        T.due("nothing was done", x.count(6), 3);
        T.due("nothing went", x.thing(0, 1), 2);
        T.due("no day went", x.now(0), 0);
        x.night();
        x.night();
        T.due("fails(60) does not tell what failed", x.fails(60), 0);
        ReceiptLeft y = Checks.told("city eats 0 carry 1 odds 0;house purse 25;house purse 0;house purse 9;thing at 1 worth 20;");
        y.steal(0, 0, 4);
        y.steal(2, 0, 60);
        T.due("purse(0, 3)", y.purse(0, 3), 25);
        T.due("purse(0, 4)", y.purse(0, 4), 5);
        T.due("purse(1, 4)", y.purse(1, 4), 20);
    }

    private static void runs() {
        ReceiptLeft x = Checks.told(TEXT);
        T.due("run() of nothing", x.run(), 0);
        x.steal(1, 0, 20);
        x.steal(2, 0, 30);
        T.due("run(), 1 can't pay", x.run(), 0b010);
        x.steal(2, 1, 40);
        T.due("run(), 2 carries one and pays for one", x.run(), 0b010);
        ReceiptLeft y = Checks.told("city eats 0 carry 1 odds 0;house purse 0;house purse 0;house purse 6;"
            + "thing at 0 worth 4;thing at 0 worth 7;");
        y.steal(2, 0, 10);
        y.steal(2, 1, 20);
        T.due("fails(60), each on its day", y.fails(60), 0);
        T.due("run(), both on one", y.run(), 0b100);
        T.due("nothing was done", y.paper(1, 3), 20);
        y.strike(0);
        T.due("run() behind a strike", y.run(), 0);
    }

    private static void hits() {
        ReceiptLeft x = Checks.told(TEXT);
        T.due("hit(0) of none", x.hit(0), 0);
        T.due("hits(0) of none", x.hits(0), -1);
        x.steal(0, 1, 9);
        x.steal(0, 2, 9);
        T.due("hit(0)", x.hit(0), 30);
        T.due("hits(0)", x.hits(0), 1);
        x.sell(0, 2);
        T.due("hit(0), both", x.hit(0), 37);
        T.due("hits(0), both", x.hits(0), 2);
        x.sell(0, 0);
        T.due("hit(0), himself aside", x.hit(0), 7);
        T.due("hits(0), himself aside", x.hits(0), 2);
        x.strike(1);
        T.due("hit(0), his own alone", x.hit(0), 0);
        T.due("hits(0), his own alone", x.hits(0), -1);
        ReceiptLeft y = Checks.told("city eats 0 carry 1 odds 0;house purse 0;house purse 0;house purse 6;"
            + "thing at 2 worth 4;thing at 1 worth 4;");
        y.steal(0, 0, 9);
        y.steal(0, 1, 9);
        T.due("hits(0), the least of several", y.hits(0), 1);
        T.due("hits(1)", y.hits(1), -1);
        y.steal(2, 0, 9);
        T.due("hits(2), the first house", y.hits(2), 0);
        T.due("hit(2), the first house", y.hit(2), 4);
        y.anew();
        y.rate(0, 1);
        y.steal(0, 0, 9);
        T.due("hit(0) of 1", y.hit(0), 1);
        T.due("hits(0) of 1", y.hits(0), 2);
    }

    private static void noSuch() {
        ReceiptLeft x = Checks.told(TEXT);
        T.due("lacks(3)", x.lacks(3), -2);
        T.due("lacks(-1)", x.lacks(-1), -2);
        T.due("needs(3)", x.needs(3), -2);
        T.due("needs(-1)", x.needs(-1), -2);
        T.due("fails(61)", x.fails(61), -2);
        T.due("fails(-1)", x.fails(-1), -2);
        T.due("later(3, 0)", x.later(3, 0), -2);
        T.due("later(-1, 0)", x.later(-1, 0), -2);
        T.due("later(0, 61)", x.later(0, 61), -2);
        T.due("later(0, -1)", x.later(0, -1), -2);
        T.due("purse(3, 0)", x.purse(3, 0), -2);
        T.due("purse(-1, 0)", x.purse(-1, 0), -2);
        T.due("purse(0, 61)", x.purse(0, 61), -2);
        T.due("purse(0, -1)", x.purse(0, -1), -2);
        T.due("hit(3)", x.hit(3), -2);
        T.due("hit(-1)", x.hit(-1), -2);
        T.due("hits(3)", x.hits(3), -2);
        T.due("hits(-1)", x.hits(-1), -2);
        ReceiptLeft y = new ReceiptLeft();
        T.due("due(1) with no city", y.due(1), -2);
        T.due("monday() with no city", y.monday(), -2);
        T.due("fails(0) with no city", y.fails(0), -2);
        T.due("run() with no city", y.run(), -2);
    }
}
