import java.lang.reflect.InvocationTargetException;

/**
 * The document from its first promise to its last: a method for each, with answers worked out by
 * hand from its words: ordinary ones, the edges it names, wrong inputs. An argument names one alone.
 */
public final class PromisesTest {
    private static final Checks T = new Checks("PromisesTest");
    private static final int LAST = 62;
    private static final String HEAD = "city eats 10 carry 2 odds 30;";
    private static final String THREE = HEAD + "house purse 100;house purse 500 locked;house purse 40;"
        + "thing at 0 worth 200;thing at 1 worth 50;thing at 2 worth 80;thing at 0 worth 30;"
        + "want 1 0 60;want 2 0 25;want 0 2 40;want 2 3 5;want 1 0 70;";
    private static final String DEBTS = "city eats 0 carry 1 odds 0;house purse 30;house purse 0;house purse 50;"
        + "thing at 1 worth 20;thing at 1 worth 25;thing at 2 worth 40;";
    private static final String TITLES = "city eats 0 carry 6 odds 0;house purse 100;house purse 100;house purse 100;"
        + "thing at 0 worth 10;thing at 1 worth 20;";
    private static final int BLANKS = 0x20202020;

    public static void main(String[] args) throws ReflectiveOperationException {
        int first = args.length > 0 ? Integer.parseInt(args[0]) : 1;
        int last = args.length > 0 ? first : LAST;
        for (int n = first; n <= last; n++) {
            try {
                PromisesTest.class.getDeclaredMethod("promise" + n).invoke(null);
            } catch (InvocationTargetException thrown) {
                T.due("promise " + n + " threw " + thrown.getCause(), 1, 0);
            }
        }
        T.finish();
    }

    // ---- what several of them begin with ----

    /** PAPERS: 0 of 1 for THING 0, held by 0, DAY 5; 1 of 0 for 2, held by 2, DAY 3; 2 of 2 for 3, held by 0, DAY 5. */
    private static ReceiptLeft thefts() {
        ReceiptLeft x = Checks.told(THREE);
        x.steal(1, 0, 5);
        x.steal(0, 2, 3);
        x.steal(2, 3, 5);
        return x;
    }

    /**
     * Of 0: PAPERS 0 (20) and 1 (25), held by 1, DAY 2, both THINGS with him; of 1: 2 (40), held by 2, DAY 3,
     * without the THING; of 2: 3 (40), held by 1, DAY 4, with it.
     */
    private static ReceiptLeft debts(String text) {
        ReceiptLeft x = Checks.told(text);
        x.steal(0, 0, 2);
        x.steal(0, 1, 2);
        x.steal(1, 2, 3);
        x.steal(2, 2, 4);
        return x;
    }

    /** One PAPER of each kind: RETURNED, FAILED, RETURNED, PAID, STRUCK, OPEN. */
    private static ReceiptLeft hows() {
        ReceiptLeft x = Checks.told("city eats 0 carry 1 odds 0;house purse 10;house purse 10;house purse 0;"
            + "thing at 0 worth 10;thing at 0 worth 11;thing at 2 worth 5;");
        x.steal(1, 0, 1);
        x.steal(1, 1, 1);
        x.night();
        x.steal(1, 0, 2);
        x.steal(1, 2, 2);
        x.night();
        x.steal(0, 2, 9);
        x.strike(4);
        x.steal(2, 1, 9);
        return x;
    }

    private static ReceiptLeft busy(ReceiptLeft x) {
        for (int act = x.count(6); act < 60; act++) {
            x.lock(0, 0);
        }
        return x;
    }

    private static void row(ReceiptLeft x, int slot, int width, long... numbers) {
        x.row(slot, width, numbers.length);
        for (int i = 0; i < numbers.length; i++) {
            x.write(slot, i, numbers[i]);
        }
    }

    private static void stays(String call, ReceiptLeft x, int acts, int papers, int day) {
        T.due(call + ": acts stay", x.count(6), acts);
        T.due(call + ": papers stay", x.count(5), papers);
        T.due(call + ": the day stays", x.now(0), day);
    }

    // ---- the text ----

    static void promise1() {
        ReceiptLeft x = new ReceiptLeft();
        T.due("NONE", ReceiptLeft.NONE, -1);
        for (int what = 0; what <= 9; what++) {
            T.due("count(" + what + ") of a new object", x.count(what), 0);
        }
        T.due("fault(0) of a new object", x.fault(0), 0);
        T.due("now(0) of a new object", x.now(0), -2);
        T.due("night() of a new object", x.night(), -2);
        T.due("house(0, 0) of a new object", x.house(0, 0), -2);
        T.due("thing(0, 0) of a new object", x.thing(0, 0), -2);
        T.due("net(0) of a new object", x.net(0), -100000);
        T.due("back(0) of a new object", x.back(0), -6);
        T.due("write(0, 0, 1) of a new object", x.write(0, 0, 1), -6);
        ReceiptLeft y = Checks.told(THREE);
        T.due("two objects are two", x.count(3), 0);
        T.due("the other has its own", y.count(3), 3);
    }

    static void promise2() {
        ReceiptLeft x = new ReceiptLeft();
        // city eats 1 carry 2 odds 3; and blanks
        T.due("feed, first", x.feed(0x63697479, 0x20656174, 0x73203120, 0x63617272, 0x79203220), 20);
        T.due("feed, second", x.feed(0x6f646473, 0x20333b20, BLANKS, BLANKS, BLANKS), 40);
        for (int calls = 3; calls <= 40; calls++) {
            T.due("feed, call " + calls, x.feed(BLANKS, BLANKS, BLANKS, BLANKS, BLANKS), 20 * calls);
        }
        T.due("feed beyond 800", x.feed(0x78787878, 0, 0, 0, 0), -1);
        T.due("800 are there", x.count(8), 800);
        T.due("end(781)", x.end(781), 781);
        T.due("feed to 801", x.feed(0x78787878, 0, 0, 0, 0), -1);
        T.due("781 are there", x.count(8), 781);
        T.due("end(780)", x.end(780), 780);
        T.due("feed to 800", x.feed(BLANKS, BLANKS, BLANKS, BLANKS, BLANKS), 800);
        T.due("nothing came of what was refused", x.city(), 1);
        T.due("eats", x.count(0), 1);
        T.due("carry", x.count(1), 2);
        T.due("odds", x.count(2), 3);
        T.due("a byte of 255", x.feed(BLANKS, 0x2020ff20, BLANKS, BLANKS, BLANKS), 20);
        T.due("it is no TOKEN", x.city(), -4);
        T.due("its place", x.fault(1), 6);
    }

    static void promise3() {
        ReceiptLeft x = new ReceiptLeft();
        T.due("end(0) of nothing", x.end(0), 0);
        T.due("end(1) of nothing", x.end(1), -1);
        Checks.put(x, HEAD + "x");
        int n = HEAD.length();
        T.due("end beyond", x.end(n + 2), -1);
        T.due("end(-1)", x.end(-1), -1);
        T.due("end of the least number", x.end(Integer.MIN_VALUE), -1);
        T.due("nothing happened", x.count(8), n + 1);
        T.due("end of all", x.end(n + 1), n + 1);
        T.due("end of the first", x.end(n), n);
        T.due("they are there", x.count(8), n);
        T.due("what was cut is gone", x.end(n + 1), -1);
        T.due("the first ones stand", x.city(), 1);
        Checks.put(x, HEAD);
        T.due("end(0)", x.end(0), 0);
        T.due("nothing is told", x.city(), 0);
    }

    static void promise4() {
        ReceiptLeft x = new ReceiptLeft();
        T.due("city() of nothing", x.city(), 0);
        Checks.put(x, THREE);
        T.due("city()", x.city(), 13);
        T.due("the TAPE is empty then", x.count(8), 0);
        T.due("HOUSES", x.count(3), 3);
        T.due("THINGS", x.count(4), 4);
        x.steal(1, 0, 5);
        x.night();
        Checks.put(x, HEAD + "thing at 0 worth 1;");
        T.due("city() of a FAULT", x.city(), -4);
        T.due("the TAPE stays", x.count(8), HEAD.length() + 19);
        T.due("LINES stay", x.count(7), 13);
        T.due("THING 0 stays with 1", x.thing(0, 1), 1);
        stays("a FAULT", x, 2, 1, 1);
        x.end(HEAD.length());
        Checks.put(x, "house purse 7;\nwant");
        x.end(HEAD.length() + 15);
        T.due("city() in place of another", x.city(), 2);
        T.due("HOUSES of this", x.count(3), 1);
        T.due("THINGS of this", x.count(4), 0);
        T.due("its purse", x.house(0, 0), 7);
        stays("nothing done", x, 0, 0, 0);
        Checks.put(x, " \n ");
        T.due("city() of blanks", x.city(), 0);
        T.due("blanks are used up", x.count(8), 0);
        T.due("there is none then: now", x.now(0), -2);
        T.due("there is none then: HOUSES", x.count(3), 0);
        T.due("there is none then: eats", x.count(0), 0);
        T.due("there is none then: carry", x.count(1), 0);
        T.due("there is none then: odds", x.count(2), 0);
        Checks.put(x, THREE);
        x.city();
        Checks.put(x, HEAD + "house purse 0;house purse 9999;house purse 1;thing at 2 worth 999;thing at 0 worth 1;want 2 0 500;want 0 1 1;");
        T.due("city() behind another", x.city(), 8);
        T.due("no lock of that stays", x.house(1, 1), 0);
        T.due("no wish of that stays", x.value(1, 0), 999);
        T.due("the greatest purse", x.house(1, 0), 9999);
        T.due("the greatest VALUE", x.value(2, 0), 1499);
        T.due("the least wish", x.value(0, 1), 2);
        Checks.put(x, "city eats 50 carry 6 odds 100;");
        T.due("city() of the greatest", x.city(), 1);
        T.due("eats", x.count(0), 50);
        Checks.put(x, "city eats0carry1odds0;house\npurse007locked;");
        T.due("city() of TOKENS side by side", x.city(), 2);
        T.due("its purse, told by 007", x.house(0, 0), 7);
        T.due("it is locked", x.house(0, 1), 1);
    }

    private static void fault(String text, int kind, int place) {
        ReceiptLeft x = new ReceiptLeft();
        Checks.put(x, text);
        T.due("city() of '" + text + "'", x.city(), -4);
        T.due("fault(0) of '" + text + "'", x.fault(0), kind);
        T.due("fault(1) of '" + text + "'", x.fault(1), place);
    }

    static void promise5() {
        ReceiptLeft x = new ReceiptLeft();
        T.due("fault(0) ahead of any", x.fault(0), 0);
        T.due("fault(1) ahead of any", x.fault(1), -1);
        T.due("fault(2)", x.fault(2), -1);
        T.due("fault(-1)", x.fault(-1), -1);
        Checks.put(x, HEAD + "House");
        x.city();
        T.due("fault(0)", x.fault(0), 1);
        T.due("fault(1)", x.fault(1), HEAD.length());
        T.due("fault(2) with a FAULT", x.fault(2), -1);
        x.end(HEAD.length());
        T.due("of the latest city() alone", x.fault(0), 1);
        x.city();
        T.due("fault(0) without", x.fault(0), 0);
        T.due("fault(1) without", x.fault(1), -1);
        int n = HEAD.length();
        fault("house purse 1;", 1, 0);
        fault("city eats 51 carry 1 odds 0;", 2, 10);
        fault("city eats 5 carry 7 odds 0;", 2, 18);
        fault("city eats 5 carry 0 odds 0;", 2, 18);
        fault("city eats 5 carry 1 odds 101;", 2, 25);
        fault("city eats -1", 1, 10);
        fault("city eats carry 1 odds 0;", 1, 10);
        fault("cities eats 1 carry 1 odds 0;", 1, 0);
        fault("xity eats 1 carry 1 odds 0;", 1, 0);
        fault("city eat 1 carry 1 odds 0;", 1, 5);
        fault("city eats 99999999999999999999 carry 1 odds 0;", 2, 10);
        fault("city eats 1 carry 1 odds 0;\t", 1, 27);
        fault(HEAD + HEAD, 1, n);
        fault(HEAD + ";", 1, n);
        fault(HEAD + "house purse 10000;", 2, n + 12);
        fault(HEAD + "house purse 1 locket;", 1, n + 14);
        fault(HEAD + "house purse 1;thing at 1 worth 1;", 2, n + 23);
        fault(HEAD + "house purse 1;thing at 0 worth 1000;", 2, n + 31);
        fault(HEAD + "house purse 1;thing at 0 worth 0;", 2, n + 31);
        fault(HEAD + "house purse 1;want 0 0 1;", 2, n + 21);
        fault(HEAD + "house purse 1;want 1 0 1;", 2, n + 19);
        fault(HEAD + "house purse 1;thing at 0 worth 1;want 1 0 1;", 2, n + 38);
        fault(HEAD + "house purse 1;thing at 0 worth 1;want 0 0 0;", 2, n + 42);
        fault(HEAD + "house purse 1;thing at 0 worth 1;want 0 0 501;", 2, n + 42);
        fault(HEAD.substring(0, n - 1) + "  ", 1, n + 1);
        String houses = HEAD + "house purse 1;".repeat(5);
        fault(houses + "house ?", 3, houses.length());
        String things = houses + "thing at 4 worth 999;".repeat(6);
        fault(things + "thing", 3, things.length());
    }

    // ---- what there is now ----

    private static void house(ReceiptLeft x, int house, int... whats) {
        for (int what = 0; what < whats.length; what++) {
            T.due("house(" + house + ", " + what + ")", x.house(house, what), whats[what]);
        }
    }

    static void promise6() {
        ReceiptLeft x = Checks.told(THREE);
        house(x, 0, 100, 0, 0b1001, 0, 0);
        house(x, 1, 500, 1, 0b0010, 0, 0);
        house(x, 2, 40, 0, 0b0100, 0, 0);
        ReceiptLeft y = thefts();
        house(y, 0, 100, 0, 0b0100, 0b101, 0b010);
        house(y, 1, 500, 1, 0b0011, 0, 0b001);
        house(y, 2, 40, 0, 0b1000, 0b010, 0b100);
        y.brings(2);
        y.sell(1, 1);
        y.lock(0, 1);
        house(y, 0, 100, 1, 0b1100, 0b001, 0b010);
        house(y, 1, 443, 1, 0b0011, 0b010, 0b001);
        house(y, 2, 97, 0, 0, 0, 0);
        T.due("house(3, 0)", y.house(3, 0), -2);
        T.due("house(-1, 0)", y.house(-1, 0), -2);
        T.due("house(0, 5)", y.house(0, 5), -2);
        T.due("house(0, -1)", y.house(0, -1), -2);
    }

    static void promise7() {
        ReceiptLeft x = thefts();
        int[][] told = {{200, 1, 0}, {50, 1, 1}, {80, 0, 2}, {30, 2, 0}};
        for (int thing = 0; thing < 4; thing++) {
            for (int what = 0; what < 3; what++) {
                T.due("thing(" + thing + ", " + what + ")", x.thing(thing, what), told[thing][what]);
            }
        }
        T.due("thing(4, 0)", x.thing(4, 0), -2);
        T.due("thing(-1, 0)", x.thing(-1, 0), -2);
        T.due("thing(0, 3)", x.thing(0, 3), -2);
        T.due("thing(0, -1)", x.thing(0, -1), -2);
    }

    static void promise8() {
        ReceiptLeft x = Checks.told(THREE);
        int[][] values = {{200, 50, 120, 30}, {270, 50, 80, 30}, {225, 50, 80, 35}};
        for (int house = 0; house < 3; house++) {
            for (int thing = 0; thing < 4; thing++) {
                T.due("value(" + house + ", " + thing + ")", x.value(house, thing), values[house][thing]);
            }
        }
        T.due("value(1, 0) behind thefts", thefts().value(1, 0), 270);
        T.due("value(3, 0)", x.value(3, 0), -2);
        T.due("value(-1, 0)", x.value(-1, 0), -2);
        T.due("value(0, 4)", x.value(0, 4), -2);
        T.due("value(0, -1)", x.value(0, -1), -2);
    }

    static void promise9() {
        ReceiptLeft x = thefts();
        int[][] told = {{1, 0, 0, 5, 0}, {0, 2, 2, 3, 0}, {2, 3, 0, 5, 0}};
        for (int paper = 0; paper < 3; paper++) {
            for (int what = 0; what < 5; what++) {
                T.due("paper(" + paper + ", " + what + ")", x.paper(paper, what), told[paper][what]);
            }
        }
        T.due("paper(3, 0)", x.paper(3, 0), -2);
        T.due("paper(-1, 0)", x.paper(-1, 0), -2);
        T.due("paper(0, 5)", x.paper(0, 5), -2);
        T.due("paper(0, -1)", x.paper(0, -1), -2);
        ReceiptLeft y = hows();
        int[] how = {1, 3, 1, 2, 4, 0};
        for (int paper = 0; paper < how.length; paper++) {
            T.due("how PAPER " + paper + " is", y.paper(paper, 4), how[paper]);
        }
        T.due("a PAPER that is PAID has its HOLDER", y.paper(3, 2), 2);
        T.due("a PAPER that is STRUCK has its THIEF", y.paper(4, 0), 0);
        T.due("PAPERS are numbered as they come", y.paper(6, 0), -2);
    }

    static void promise10() {
        ReceiptLeft x = thefts();
        // 200, 180, 162, 145, 130, 117; 80, 72, 64, 57; 30, 27, 24, 21, 18, 16
        T.due("price(0)", x.price(0), 117);
        T.due("price(1)", x.price(1), 57);
        T.due("price(2)", x.price(2), 16);
        x.night();
        T.due("price(0) a DAY later", x.price(0), 130);
        T.due("price(1) a DAY later", x.price(1), 64);
        T.due("price(2) a DAY later", x.price(2), 18);
        x.strike(0);
        x.brings(2);
        T.due("price(0), STRUCK", x.price(0), -1);
        T.due("price(2), RETURNED", x.price(2), -1);
        T.due("price(3)", x.price(3), -2);
        T.due("price(-1)", x.price(-1), -2);
        ReceiptLeft y = hows();
        T.due("price(1), FAILED", y.price(1), -1);
        T.due("price(3), PAID", y.price(3), -1);
        T.due("price(5), nothing eaten", y.price(5), 11);
    }

    static void promise11() {
        ReceiptLeft x = Checks.told(THREE);
        T.due("net(0)", x.net(0), 100 + 200 + 30);
        T.due("net(1)", x.net(1), 500 + 50);
        T.due("net(2)", x.net(2), 40 + 80);
        x = thefts();
        T.due("net(0) behind thefts", x.net(0), 100 + 120 + (200 + 30) - 80);
        T.due("net(1) behind thefts", x.net(1), 500 + 270 + 50 - 200);
        T.due("net(2) behind thefts", x.net(2), 40 + 35 + 80 - 30);
        x.sell(1, 0);
        T.due("net(0), who holds his own", x.net(0), 43 + 120 + (200 + 30 + 80) - 80);
        x.strike(2);
        T.due("net(2), without PAPERS", x.net(2), 97 + 35);
        T.due("net(3)", x.net(3), -100000);
        T.due("net(-1)", x.net(-1), -100000);
        // 1 is robbed of what it owes
        ReceiptLeft y = debts(DEBTS);
        T.due("net(1)", y.net(1), 20 + 25 + 40 - 40);
        y.strike(0);
        y.strike(1);
        y.strike(3);
        T.due("net(1), below nothing", y.net(1), -40);
    }

    // ---- acts ----

    static void promise12() {
        ReceiptLeft x = Checks.told(THREE);
        T.due("steal what it has", x.steal(0, 0, 5), -5);
        T.due("steal from a locked HOUSE", x.steal(0, 1, 5), -5);
        T.due("steal for DAY 0", x.steal(1, 0, 0), -2);
        T.due("steal for DAY 61", x.steal(1, 0, 61), -2);
        T.due("-2 ahead of -5", x.steal(0, 1, 61), -2);
        T.due("steal by no HOUSE", x.steal(3, 0, 5), -2);
        T.due("steal by HOUSE -1", x.steal(-1, 0, 5), -2);
        T.due("steal no THING", x.steal(0, 4, 5), -2);
        T.due("steal THING -1", x.steal(0, -1, 5), -2);
        stays("refused thefts", x, 0, 0, 0);
        T.due("steal, itself locked", x.steal(1, 0, 60), 0);
        int[] told = {1, 0, 0, 60, 0};
        for (int what = 0; what < 5; what++) {
            T.due("its PAPER, " + what, x.paper(0, what), told[what]);
        }
        T.due("the THING is with the THIEF", x.thing(0, 1), 1);
        T.due("nothing is paid", x.now(3), 640);
        T.due("it is an act", x.count(6), 1);
        x.night();
        x.night();
        T.due("steal for a DAY ahead of now", x.steal(0, 2, 1), -5);
        T.due("steal for now", x.steal(0, 2, 2), -5);
        T.due("steal for the next DAY", x.steal(0, 2, 3), 1);
        T.due("with 60 acts", busy(Checks.told(THREE)).steal(2, 3, 5), -5);
        ReceiptLeft y = Checks.told(TITLES);
        for (int paper = 0; paper < 24; paper++) {
            T.due("theft " + paper, y.steal(1 - paper % 2, 0, 9), paper);
        }
        T.due("a 25th PAPER", y.steal(1, 0, 9), -5);
        T.due("24 PAPERS", y.count(5), 24);
    }

    static void promise13() {
        ReceiptLeft x = thefts();
        T.due("sell(1, 1)", x.sell(1, 1), 57);
        T.due("the buyer paid", x.house(1, 0), 443);
        T.due("the seller has it", x.house(2, 0), 97);
        T.due("its HOLDER", x.paper(1, 2), 1);
        T.due("it is OPEN", x.paper(1, 4), 0);
        T.due("the THING stays", x.thing(2, 1), 0);
        T.due("it is an act", x.count(6), 4);
        T.due("sell to its HOLDER", x.sell(1, 1), -5);
        T.due("sell to who has not so much", x.sell(0, 2), -5);
        T.due("sell no PAPER", x.sell(3, 0), -2);
        T.due("sell PAPER -1", x.sell(-1, 0), -2);
        T.due("sell to no HOUSE", x.sell(0, 3), -2);
        T.due("sell to HOUSE -1", x.sell(0, -1), -2);
        stays("refused sales", x, 4, 3, 0);
        T.due("sell to the THIEF", x.sell(0, 1), 117);
        T.due("he holds his own", x.paper(0, 2), 1);
        x.strike(2);
        T.due("sell one that is STRUCK", x.sell(2, 1), -5);
        T.due("-2 ahead of -5", x.sell(2, 3), -2);
        T.due("with 60 acts", busy(thefts()).sell(1, 1), -5);
        // the whole purse of 2 is just enough, and a coin more is not
        ReceiptLeft y = debts(DEBTS.replace("house purse 50", "house purse 25"));
        T.due("sell for all it has", y.sell(1, 2), 25);
        T.due("its purse is empty", y.house(2, 0), 0);
        T.due("the seller's", y.house(1, 0), 25);
        T.due("a coin more", debts(DEBTS.replace("house purse 50", "house purse 24")).sell(1, 2), -5);
    }

    static void promise14() {
        ReceiptLeft x = thefts();
        T.due("brings(0)", x.brings(0), 0);
        T.due("the THING is with the HOLDER", x.thing(0, 1), 0);
        T.due("the PAPER is RETURNED", x.paper(0, 4), 1);
        T.due("nothing is paid", x.now(3), 640);
        T.due("it is an act", x.count(6), 4);
        T.due("brings(0) again", x.brings(0), -5);
        T.due("brings(3)", x.brings(3), -2);
        T.due("brings(-1)", x.brings(-1), -2);
        stays("refused returns", x, 4, 3, 0);
        x.sell(1, 1);
        T.due("brings(1), to a locked HOUSE", x.brings(1), 1);
        T.due("THING 2 is there", x.thing(2, 1), 1);
        T.due("with 60 acts", busy(thefts()).brings(0), -5);
        ReceiptLeft y = debts(DEBTS);
        T.due("brings(2), who has it not", y.brings(2), -5);
        T.due("brings(3)", y.brings(3), 1);
        T.due("brings(2), who has it now", y.brings(2), 2);
        // there is no bound by carry, and none by his own HOUSE
        T.due("brings(0) by day", y.brings(0), 1);
        y.sell(1, 0);
        T.due("brings(1) to himself", y.brings(1), 0);
        T.due("the THING stays", y.thing(1, 1), 0);
        T.due("it is RETURNED", y.paper(1, 4), 1);
    }

    static void promise15() {
        ReceiptLeft x = thefts();
        T.due("strike(1)", x.strike(1), 2);
        T.due("it is STRUCK", x.paper(1, 4), 4);
        T.due("the THING stays", x.thing(2, 1), 0);
        T.due("nothing is paid", x.now(3), 640);
        T.due("strike(1) again", x.strike(1), -5);
        T.due("strike(3)", x.strike(3), -2);
        T.due("strike(-1)", x.strike(-1), -2);
        stays("refused strikes", x, 4, 3, 0);
        T.due("strike(0)", x.strike(0), 1);
        T.due("strike(2)", x.strike(2), 0);
        T.due("with 60 acts", busy(thefts()).strike(0), -5);
        ReceiptLeft y = hows();
        T.due("strike one that is RETURNED", y.strike(0), -5);
        T.due("strike one that FAILED", y.strike(1), -5);
        T.due("strike one that is PAID", y.strike(3), -5);
    }

    static void promise16() {
        ReceiptLeft x = Checks.told(THREE);
        T.due("lock(0, 1)", x.lock(0, 1), 0);
        T.due("it is locked", x.house(0, 1), 1);
        T.due("nobody steals there", x.steal(1, 0, 5), -5);
        T.due("lock(0, 1) again", x.lock(0, 1), 1);
        T.due("lock(0, 0)", x.lock(0, 0), 1);
        T.due("it is not locked", x.house(0, 1), 0);
        T.due("lock(1, 0), told as locked", x.lock(1, 0), 1);
        T.due("lock(2, 0)", x.lock(2, 0), 0);
        T.due("each is an act", x.count(6), 5);
        busy(x);
        T.due("the 60th act stands", x.count(6), 60);
        for (int act = 60; act > 5; act--) {
            x.undo();
        }
        T.due("lock(0, 2)", x.lock(0, 2), -2);
        T.due("lock(0, -1)", x.lock(0, -1), -2);
        T.due("lock(3, 1)", x.lock(3, 1), -2);
        T.due("lock(-1, 1)", x.lock(-1, 1), -2);
        stays("refused locks", x, 5, 0, 0);
        T.due("somebody steals there", x.steal(0, 1, 5), 0);
        busy(x);
        T.due("lock with 60 acts", x.lock(0, 1), -5);
        T.due("-2 ahead of -5", x.lock(0, 2), -2);
        T.due("it stays as it was", x.house(0, 1), 0);
    }

    static void promise17() {
        T.due("night() with no CITY", new ReceiptLeft().night(), -2);
        ReceiptLeft x = debts(DEBTS);
        T.due("night() 1", x.night(), 0);
        T.due("a DAY later", x.now(0), 1);
        T.due("none of another DAY", x.now(1), 0b1111);
        T.due("night() 2", x.night(), 0);
        // carry is 1: the first THING goes back, the other's worth is paid
        T.due("PAPER 0 is RETURNED", x.paper(0, 4), 1);
        T.due("THING 0 went", x.thing(0, 1), 1);
        T.due("PAPER 1 is PAID", x.paper(1, 4), 2);
        T.due("THING 1 stays", x.thing(1, 1), 0);
        T.due("who paid", x.house(0, 0), 5);
        T.due("who was paid", x.house(1, 0), 25);
        T.due("night() 3", x.night(), 1);
        T.due("PAPER 2 FAILED", x.paper(2, 4), 3);
        T.due("a purse that lacks is kept", x.house(1, 0), 25);
        T.due("night() 4", x.night(), 0);
        T.due("PAPER 3 is RETURNED", x.paper(3, 4), 1);
        T.due("each is an act", x.count(6), 8);
        T.due("with 60 acts", busy(x).night(), -5);
        T.due("it is the DAY that it was", x.now(0), 4);
        // by numbers: with 0's money 1 can pay, if 0's PAPER is ahead
        String text = "city eats 0 carry 1 odds 0;house purse 10;house purse 0;house purse 0;thing at 1 worth 10;thing at 2 worth 10;";
        T.due("the payer's ahead", lateMoney(Checks.told(text), true).night(), 0);
        T.due("the payer's behind", lateMoney(Checks.told(text), false).night(), 1);
        // RETURNED also if the HOLDER is the THIEF, who is poor
        ReceiptLeft y = Checks.told("city eats 0 carry 1 odds 0;house purse 10;house purse 0;thing at 1 worth 10;");
        y.steal(0, 0, 1);
        y.sell(0, 0);
        T.due("night() of his own", y.night(), 0);
        T.due("it is RETURNED", y.paper(0, 4), 1);
        T.due("it went nowhere", y.thing(0, 1), 0);
    }

    private static ReceiptLeft lateMoney(ReceiptLeft x, boolean ahead) {
        x.steal(ahead ? 0 : 1, ahead ? 0 : 1, 1);
        x.steal(ahead ? 1 : 0, ahead ? 1 : 0, 1);
        x.steal(2, 0, 9);
        x.steal(2, 1, 9);
        return x;
    }

    static void promise18() {
        T.due("undo() with no CITY", new ReceiptLeft().undo(), -2);
        ReceiptLeft x = debts(DEBTS);
        x.sell(1, 2);
        x.lock(2, 1);
        x.strike(3);
        x.night();
        x.night();
        T.due("undo() of a NIGHT", x.undo(), 8);
        T.due("the DAY", x.now(0), 1);
        T.due("PAPERS are OPEN again", x.now(1), 0b0111);
        T.due("THING 0 is back", x.thing(0, 1), 0);
        T.due("went(0)", x.went(0), 1);
        T.due("undo() of another", x.undo(), 7);
        T.due("the first DAY", x.now(0), 0);
        T.due("undo() of a strike", x.undo(), 6);
        T.due("PAPER 3 is OPEN", x.paper(3, 4), 0);
        T.due("undo() of a lock", x.undo(), 5);
        T.due("HOUSE 2 is not locked", x.house(2, 1), 0);
        T.due("undo() of a sale", x.undo(), 4);
        T.due("PAPER 1's HOLDER", x.paper(1, 2), 1);
        T.due("the purse of 2", x.house(2, 0), 50);
        T.due("the purse of 1", x.house(1, 0), 0);
        x.brings(0);
        T.due("undo() of a return", x.undo(), 4);
        T.due("PAPER 0 is OPEN", x.paper(0, 4), 0);
        T.due("undo() of a theft", x.undo(), 3);
        T.due("PAPERS", x.count(5), 3);
        T.due("THING 2 is with 1", x.thing(2, 1), 1);
        T.due("the next theft's PAPER", x.steal(2, 2, 7), 3);
        x.anew();
        T.due("undo() of none", x.undo(), -5);
    }

    static void promise19() {
        T.due("anew() with no CITY", new ReceiptLeft().anew(), -2);
        ReceiptLeft x = debts(DEBTS);
        x.lock(2, 1);
        x.night();
        x.night();
        T.due("anew()", x.anew(), 7);
        stays("all taken back", x, 0, 0, 0);
        house(x, 0, 30, 0, 0, 0, 0);
        house(x, 1, 0, 0, 0b011, 0, 0);
        house(x, 2, 50, 0, 0b100, 0, 0);
        T.due("went(0)", x.went(0), 0);
        T.due("anew() of none", x.anew(), 0);
        T.due("a purse told stays told", x.house(0, 0), 30);
    }

    static void promise20() {
        ReceiptLeft x = thefts();
        T.due("now(0)", x.now(0), 0);
        T.due("now(1)", x.now(1), 0b111);
        T.due("now(2)", x.now(2), 0);
        T.due("now(3)", x.now(3), 640);
        for (int night = 0; night < 3; night++) {
            x.night();
        }
        T.due("now(0), three NIGHTS on", x.now(0), 3);
        T.due("now(1), three NIGHTS on", x.now(1), 0b101);
        T.due("now(2) of one that FAILED", hows().now(2), 1);
        T.due("now(1) of one that is OPEN", hows().now(1), 0b100000);
        T.due("now(4)", x.now(4), -2);
        T.due("now(-1)", x.now(-1), -2);
        T.due("now(0) with no CITY", new ReceiptLeft().now(0), -2);
        T.due("now(3) with no HOUSES", Checks.told(HEAD).now(3), 0);
    }

    // ---- whose a thing is ----

    private static ReceiptLeft ring() {
        ReceiptLeft x = thefts();
        x.lock(1, 0);
        x.steal(0, 0, 9);
        return x;
    }

    static void promise21() {
        ReceiptLeft x = thefts();
        int[] owners = {0, 1, 2, 0};
        for (int thing = 0; thing < 4; thing++) {
            T.due("owner(" + thing + ")", x.owner(thing), owners[thing]);
        }
        x.sell(1, 1);
        T.due("owner(2), its PAPER sold", x.owner(2), 1);
        x.strike(1);
        T.due("owner(2), its PAPER STRUCK", x.owner(2), 0);
        T.due("owner(0) of a RING", ring().owner(0), -1);
        T.due("owner(4)", x.owner(4), -2);
        T.due("owner(-1)", x.owner(-1), -2);
        // the latest of two, those he holds himself aside
        ReceiptLeft y = Checks.told(TITLES);
        y.steal(1, 0, 9);
        y.steal(2, 0, 9);
        y.steal(1, 0, 9);
        y.strike(1);
        T.due("owner(0) by the latest", y.owner(0), 2);
        y.sell(2, 1);
        T.due("owner(0), his own aside", y.owner(0), 0);
    }

    static void promise22() {
        ReceiptLeft x = thefts();
        T.due("chain(0, 0)", x.chain(0, 0), 1);
        T.due("chain(0, 1)", x.chain(0, 1), 0);
        T.due("chain(0, 2)", x.chain(0, 2), -1);
        T.due("chain(0, -1)", x.chain(0, -1), -1);
        T.due("chain(1, 0)", x.chain(1, 0), 1);
        T.due("chain(1, 1)", x.chain(1, 1), -1);
        ReceiptLeft y = ring();
        T.due("chain(0, 0) of a RING", y.chain(0, 0), 0);
        T.due("chain(0, 1) of a RING", y.chain(0, 1), 1);
        T.due("chain(0, 2) of a RING", y.chain(0, 2), -1);
        T.due("chain(4, 0)", x.chain(4, 0), -2);
        T.due("chain(-1, 0)", x.chain(-1, 0), -2);
    }

    static void promise23() {
        T.due("rings()", thefts().rings(), 0);
        ReceiptLeft x = ring();
        T.due("rings() of one", x.rings(), 0b0001);
        x.strike(1);
        x.steal(1, 2, 9);
        x.steal(0, 2, 9);
        T.due("rings() of two", x.rings(), 0b0101);
        x.strike(0);
        T.due("rings() behind a strike", x.rings(), 0b0100);
        T.due("rings() with no CITY", new ReceiptLeft().rings(), -2);
        T.due("rings() with no THINGS", Checks.told(HEAD).rings(), 0);
    }

    static void promise24() {
        ReceiptLeft x = thefts();
        T.due("owns(0)", x.owns(0), 0b1001);
        T.due("owns(1)", x.owns(1), 0b0010);
        T.due("owns(2)", x.owns(2), 0b0100);
        x.sell(1, 1);
        T.due("owns(1), a PAPER bought", x.owns(1), 0b0110);
        T.due("owns(2), a PAPER sold", x.owns(2), 0);
        T.due("owns(0), but for a RING", ring().owns(0), 0b1000);
        T.due("owns(3)", x.owns(3), -2);
        T.due("owns(-1)", x.owns(-1), -2);
    }

    /** THING 0: PAPERS 0 of 1 held by 0, 1 of 2 held by 1, 2 of 1 held by 2. */
    private static ReceiptLeft twofold() {
        ReceiptLeft x = Checks.told(TITLES);
        x.steal(1, 0, 9);
        x.steal(2, 0, 9);
        x.steal(1, 0, 9);
        return x;
    }

    static void promise25() {
        ReceiptLeft x = twofold();
        T.due("twice()", x.twice(), 1);
        x.steal(2, 0, 9);
        T.due("twice() of two THIEVES", x.twice(), 2);
        x.steal(1, 0, 9);
        T.due("twice() of three PAPERS and of two", x.twice(), 4);
        x.sell(4, 1);
        T.due("twice(), his own aside", x.twice(), 2);
        x.strike(0);
        T.due("twice() behind a strike", x.twice(), 1);
        T.due("twice() of several THINGS", thefts().twice(), 0);
        T.due("twice() with no CITY", new ReceiptLeft().twice(), -2);
    }

    static void promise26() {
        ReceiptLeft x = twofold();
        T.due("strikes()", x.strikes(), 1);
        x.strike(2);
        T.due("strikes() of what is CLEAN", x.strikes(), 0);
        // two THINGS, each a RING
        ReceiptLeft y = Checks.told(TITLES);
        y.steal(1, 0, 9);
        y.steal(0, 0, 9);
        y.steal(0, 1, 9);
        y.steal(1, 1, 9);
        T.due("strikes() of two RINGS", y.strikes(), 2);
        // a THING goes aside, and the PAPERS that lead round stay
        y.steal(2, 0, 9);
        y.strike(4);
        T.due("strikes() of a RING that no CHAIN goes", y.strikes(), 2);
        y.sell(1, 0);
        T.due("strikes(), his own aside", y.strikes(), 1);
        T.due("strikes() with no CITY", new ReceiptLeft().strikes(), -2);
        T.due("strikes() with no PAPERS", Checks.told(HEAD).strikes(), 0);
    }

    static void promise27() {
        ReceiptLeft x = twofold();
        // PAPERS 0 and 1 would do too, a lesser set, but of more
        T.due("struck()", x.struck(), 0b100);
        x.strike(2);
        T.due("struck() of what is CLEAN", x.struck(), 0);
        ReceiptLeft y = Checks.told(TITLES);
        y.steal(0, 1, 9);
        y.steal(1, 1, 9);
        T.due("struck(), the least of two", y.struck(), 0b01);
        y.steal(1, 0, 9);
        y.steal(0, 0, 9);
        T.due("struck() of two THINGS", y.struck(), 0b0101);
        y.steal(0, 1, 9);
        y.steal(1, 1, 9);
        // THING 1: 0 and 4, 1 and 5 are TWICE, and each of 0 with each of 1 a RING
        T.due("struck() of three more", y.struck(), 0b010111);
        y.undo();
        y.undo();
        T.due("struck() with no CITY", new ReceiptLeft().struck(), -2);
        for (int paper = 0; paper < 4; paper += 2) {
            y.strike(paper);
        }
        T.due("all is CLEAN then", y.struck(), 0);
    }

    static void promise28() {
        ReceiptLeft x = thefts();
        for (int night = 0; night < 5; night++) {
            x.night();
        }
        x.steal(2, 0, 9);
        int[] was = {0, 1, 0, 2, -1};
        for (int i = 0; i < was.length; i++) {
            T.due("trail(0, " + i + ")", x.trail(0, i), was[i]);
        }
        T.due("trail(0, -1)", x.trail(0, -1), -1);
        T.due("trail(1, 0)", x.trail(1, 0), 1);
        T.due("trail(1, 1)", x.trail(1, 1), -1);
        T.due("trail(4, 0)", x.trail(4, 0), -2);
        T.due("trail(-1, 0)", x.trail(-1, 0), -2);
        // to and fro, by all the PAPERS there may be
        ReceiptLeft y = Checks.told(TITLES);
        for (int paper = 0; paper < 24; paper++) {
            y.steal(1, 0, 60);
            y.brings(paper);
        }
        for (int i = 0; i <= 48; i++) {
            T.due("trail(0, " + i + "), to and fro", y.trail(0, i), i % 2);
        }
        T.due("trail(0, 49), to and fro", y.trail(0, 49), -1);
    }

    static void promise29() {
        ReceiptLeft x = thefts();
        T.due("went(0)", x.went(0), 1);
        T.due("went(1)", x.went(1), 0);
        for (int night = 0; night < 5; night++) {
            x.night();
        }
        T.due("went(0), brought back", x.went(0), 2);
        // a return to himself is no way
        ReceiptLeft y = Checks.told(TITLES);
        y.steal(1, 0, 9);
        y.sell(0, 1);
        y.brings(0);
        T.due("went(0), brought to himself", y.went(0), 1);
        T.due("went(4)", x.went(4), -2);
        T.due("went(-1)", x.went(-1), -2);
    }

    static void promise30() {
        ReceiptLeft x = Checks.told(THREE);
        T.due("lies(0)", x.lies(0), 0b0100);
        T.due("lies(1)", x.lies(1), 0b1101);
        T.due("lies(2)", x.lies(2), 0b1001);
        x.lock(1, 0);
        T.due("lies(0), 1 not locked", x.lies(0), 0b0110);
        x.steal(2, 0, 9);
        T.due("lies(0) behind a theft", x.lies(0), 0b0111);
        T.due("lies(2) behind a theft", x.lies(2), 0b1010);
        T.due("lies(3)", x.lies(3), -2);
        T.due("lies(-1)", x.lies(-1), -2);
    }

    static void promise31() {
        T.due("poorest()", Checks.told(THREE).poorest(), 2);
        T.due("poorest() of debtors", debts(DEBTS).poorest(), 0);
        ReceiptLeft x = Checks.told(TITLES);
        // 110, 120, 100
        T.due("poorest(), the last", x.poorest(), 2);
        x.steal(2, 0, 9);
        x.steal(1, 0, 9);
        x.strike(0);
        x.strike(1);
        // 100, 130, 100
        T.due("poorest(), the first of several", x.poorest(), 0);
        T.due("poorest() with no HOUSES", Checks.told(HEAD).poorest(), -1);
        T.due("poorest() with no CITY", new ReceiptLeft().poorest(), -2);
    }

    // ---- what falls due ----

    static void promise32() {
        ReceiptLeft x = thefts();
        T.due("due(0)", x.due(0), 0);
        T.due("due(3)", x.due(3), 0b010);
        T.due("due(4)", x.due(4), 0);
        T.due("due(5)", x.due(5), 0b101);
        x.strike(0);
        T.due("due(5) behind a strike", x.due(5), 0b100);
        T.due("due(60)", x.due(60), 0);
        T.due("due(61)", x.due(61), -2);
        T.due("due(-1)", x.due(-1), -2);
        T.due("due(0) with no CITY", new ReceiptLeft().due(0), -2);
        ReceiptLeft y = Checks.told(THREE);
        y.steal(1, 0, 60);
        T.due("due(60) of one", y.due(60), 1);
    }

    static void promise33() {
        ReceiptLeft x = thefts();
        T.due("monday()", x.monday(), 5);
        x.strike(0);
        T.due("monday(), the first of several", x.monday(), 3);
        x.strike(1);
        T.due("monday() of one", x.monday(), 5);
        x.strike(2);
        T.due("monday() of none", x.monday(), -1);
        x.lock(1, 0);
        T.due("steal(0, 1, 60)", x.steal(0, 1, 60), 3);
        T.due("monday() of the last DAY", x.monday(), 60);
        T.due("monday() with no CITY", new ReceiptLeft().monday(), -2);
    }

    static void promise34() {
        ReceiptLeft x = debts(DEBTS);
        T.due("lacks(0)", x.lacks(0), 0);
        T.due("lacks(1)", x.lacks(1), 40);
        T.due("lacks(2)", x.lacks(2), 0);
        x.steal(1, 0, 9);
        x.steal(1, 1, 9);
        T.due("lacks(0), robbed of both", x.lacks(0), 45);
        x.strike(0);
        T.due("lacks(0) behind a strike", x.lacks(0), 25);
        T.due("lacks(3)", x.lacks(3), -2);
        T.due("lacks(-1)", x.lacks(-1), -2);
    }

    static void promise35() {
        ReceiptLeft x = debts(DEBTS);
        // DAY 2: 0 brings 20, pays 25 to 1; DAY 3: 1 pays 40 and has those 25
        T.due("needs(0)", x.needs(0), 25);
        T.due("needs(1)", x.needs(1), 15);
        T.due("needs(2)", x.needs(2), 0);
        T.due("with so much nothing fails", debts(DEBTS.replace("house purse 0", "house purse 15")).fails(60), 0);
        T.due("with a coin less it does", debts(DEBTS.replace("house purse 0", "house purse 14")).fails(60), 0b100);
        T.due("the purse stays", x.house(1, 0), 0);
        T.due("needs(3)", x.needs(3), -2);
        T.due("needs(-1)", x.needs(-1), -2);
        // a PAPER that falls due on the 60th NIGHT from now on
        ReceiptLeft y = Checks.told(TITLES);
        y.steal(1, 0, 60);
        y.steal(2, 0, 60);
        y.strike(1);
        T.due("needs(1) on DAY 60", y.needs(1), 10);
    }

    static void promise36() {
        ReceiptLeft x = debts(DEBTS);
        T.due("fails(0)", x.fails(0), 0);
        T.due("fails(2)", x.fails(2), 0);
        T.due("fails(3)", x.fails(3), 0b100);
        T.due("fails(60)", x.fails(60), 0b100);
        T.due("fails(61)", x.fails(61), -2);
        T.due("fails(-1)", x.fails(-1), -2);
        T.due("fails(0) with no CITY", new ReceiptLeft().fails(0), -2);
        stays("asked alone", x, 4, 4, 0);
        for (int night = 0; night < 3; night++) {
            x.night();
        }
        T.due("fails(60), what FAILED aside", x.fails(60), 0);
    }

    static void promise37() {
        ReceiptLeft x = debts(DEBTS);
        T.due("later(0, 0)", x.later(0, 0), 0);
        T.due("later(0, 1)", x.later(0, 1), 0);
        T.due("later(0, 2)", x.later(0, 2), 1);
        T.due("later(1, 60)", x.later(1, 60), 0);
        T.due("later(2, 3)", x.later(2, 3), 2);
        T.due("later(2, 4)", x.later(2, 4), 1);
        T.due("later(0, 61)", x.later(0, 61), -2);
        T.due("later(0, -1)", x.later(0, -1), -2);
        T.due("later(3, 0)", x.later(3, 0), -2);
        T.due("later(-1, 0)", x.later(-1, 0), -2);
        stays("asked alone", x, 4, 4, 0);
        T.due("the THING stays", x.thing(0, 1), 0);
    }

    static void promise38() {
        ReceiptLeft x = debts(DEBTS);
        T.due("purse(0, 0)", x.purse(0, 0), 30);
        T.due("purse(0, 1)", x.purse(0, 1), 30);
        T.due("purse(0, 2)", x.purse(0, 2), 5);
        T.due("purse(1, 2)", x.purse(1, 2), 25);
        T.due("purse(1, 60)", x.purse(1, 60), 25);
        T.due("purse(2, 60)", x.purse(2, 60), 50);
        T.due("purse(0, 61)", x.purse(0, 61), -2);
        T.due("purse(0, -1)", x.purse(0, -1), -2);
        T.due("purse(3, 0)", x.purse(3, 0), -2);
        T.due("purse(-1, 0)", x.purse(-1, 0), -2);
        stays("asked alone", x, 4, 4, 0);
        T.due("the purse stays", x.house(0, 0), 30);
    }

    static void promise39() {
        ReceiptLeft x = debts(DEBTS);
        T.due("run()", x.run(), 0b010);
        T.due("run() of a poor one", debts(DEBTS.replace("house purse 30", "house purse 24")).run(), 0b011);
        T.due("run() of a rich one", debts(DEBTS.replace("house purse 0", "house purse 15")).run(), 0);
        stays("asked alone", x, 4, 4, 0);
        T.due("the DAY of a PAPER stays", x.paper(0, 3), 2);
        T.due("run() of none", Checks.told(THREE).run(), 0);
        T.due("run() with no CITY", new ReceiptLeft().run(), -2);
    }

    static void promise40() {
        ReceiptLeft x = debts(DEBTS);
        T.due("hit(0)", x.hit(0), 45);
        T.due("hit(1)", x.hit(1), 40);
        x.sell(1, 2);
        T.due("hit(0), to two HOUSES", x.hit(0), 25);
        x.sell(1, 0);
        T.due("hit(0), himself aside", x.hit(0), 20);
        x.strike(0);
        T.due("hit(0) of none", x.hit(0), 0);
        T.due("hit(3)", x.hit(3), -2);
        T.due("hit(-1)", x.hit(-1), -2);
    }

    static void promise41() {
        ReceiptLeft x = debts(DEBTS);
        T.due("hits(0)", x.hits(0), 1);
        T.due("hits(1)", x.hits(1), 2);
        T.due("hits(2)", x.hits(2), 1);
        x.sell(1, 2);
        T.due("hits(0), to two HOUSES", x.hits(0), 2);
        x.sell(1, 0);
        T.due("hits(0), himself aside", x.hits(0), 1);
        x.strike(0);
        T.due("hits(0) of none", x.hits(0), -1);
        T.due("hits(3)", x.hits(3), -2);
        T.due("hits(-1)", x.hits(-1), -2);
        ReceiptLeft y = debts(DEBTS.replace("worth 25", "worth 20"));
        y.sell(0, 2);
        T.due("hits(0), the least of several", y.hits(0), 1);
        T.due("hits(1) of thefts", thefts().hits(1), 0);
    }

    // ---- what to do ----

    static void promise42() {
        ReceiptLeft x = Checks.told(THREE);
        T.due("plan(0, 1)", x.plan(0, 1), 40);
        T.due("plan(0, 4)", x.plan(0, 4), 40);
        T.due("plan(1, 2)", x.plan(1, 2), 70);
        T.due("plan(2, 1)", x.plan(2, 1), 25);
        T.due("plan(2, 2)", x.plan(2, 2), 30);
        T.due("plan(2, 4)", x.plan(2, 4), 30);
        T.due("plan(0, 0)", x.plan(0, 0), -2);
        T.due("plan(0, 5)", x.plan(0, 5), -2);
        T.due("plan(3, 1)", x.plan(3, 1), -2);
        T.due("plan(-1, 1)", x.plan(-1, 1), -2);
        stays("asked alone", x, 0, 0, 0);
        x.steal(2, 0, 9);
        x.steal(2, 3, 9);
        T.due("NET is so much more", x.net(2), 120 + 30);
        T.due("plan(2, 4) then", x.plan(2, 4), 0);
        x.lock(2, 1);
        T.due("plan(1, 4), all locked up", x.plan(1, 4), 0);
    }

    static void promise43() {
        ReceiptLeft x = Checks.told(THREE);
        T.due("plans(2, 2, 0)", x.plans(2, 2, 0), 0);
        T.due("plans(2, 2, 1)", x.plans(2, 2, 1), 3);
        T.due("plans(2, 2, 2)", x.plans(2, 2, 2), -1);
        T.due("plans(2, 1, 1), beyond n", x.plans(2, 1, 1), -1);
        T.due("plans(1, 4, 0)", x.plans(1, 4, 0), 0);
        T.due("plans(1, 4, 1), not wanted more", x.plans(1, 4, 1), -1);
        T.due("plans(0, 1, -1)", x.plans(0, 1, -1), -1);
        T.due("plans(0, 0, 0)", x.plans(0, 0, 0), -2);
        T.due("plans(0, 5, 0)", x.plans(0, 5, 0), -2);
        T.due("plans(3, 1, 0)", x.plans(3, 1, 0), -2);
        T.due("plans(-1, 1, 0)", x.plans(-1, 1, 0), -2);
        x.want(2, 3, 26);
        T.due("plans(2, 1, 0), the most wanted", x.plans(2, 1, 0), 3);
        x.want(2, 3, 25);
        T.due("plans(2, 1, 0), the least of like ones", x.plans(2, 1, 0), 0);
    }

    static void promise44() {
        ReceiptLeft x = Checks.told(THREE);
        T.due("change(0, 2)", x.change(0, 2), -1);
        x.want(2, 3, 50);
        T.due("change(0, 2), no more", x.change(0, 2), -1);
        x.want(2, 3, 51);
        T.due("change(0, 2), one more", x.change(0, 2), 32);
        T.due("change(2, 0)", x.change(2, 0), 23);
        x.rate(0, 119);
        T.due("change(0, 2), the first", x.change(0, 2), 2);
        x.rate(0, 120);
        T.due("change(0, 2), the other has no more", x.change(0, 2), 32);
        T.due("change(1, 0)", x.change(1, 0), -1);
        x.rate(0, 119);
        T.due("change(2, 0), for THING 0", x.change(2, 0), 20);
        T.due("change(0, 0)", x.change(0, 0), -2);
        T.due("change(0, 3)", x.change(0, 3), -2);
        T.due("change(3, 0)", x.change(3, 0), -2);
        T.due("change(-1, 0)", x.change(-1, 0), -2);
        T.due("change(0, -1)", x.change(0, -1), -2);
    }

    static void promise45() {
        ReceiptLeft x = Checks.told(THREE);
        // THING 0 to 1, THING 2 to 0, THING 1 to 2
        T.due("deal()", x.deal(), 270 + 120 + 50);
        x.want(1, 0, 0);
        T.due("deal() without a wish", x.deal(), 225 + 120 + 50);
        T.due("deal() of one HOUSE", Checks.told(HEAD + "house purse 0;thing at 0 worth 10;thing at 0 worth 20;").deal(), 20);
        T.due("deal() of no THINGS", Checks.told(HEAD + "house purse 0;").deal(), 0);
        T.due("deal() of no HOUSES", Checks.told(HEAD).deal(), 0);
        T.due("deal() with no CITY", new ReceiptLeft().deal(), -2);
    }

    static void promise46() {
        ReceiptLeft x = Checks.told(THREE);
        int[] houses = {1, 2, 0, -1};
        for (int thing = 0; thing < 4; thing++) {
            T.due("deals(" + thing + ")", x.deals(thing), houses[thing]);
        }
        T.due("deals(4)", x.deals(4), -2);
        T.due("deals(-1)", x.deals(-1), -2);
        ReceiptLeft y = Checks.told(HEAD + "house purse 0;house purse 0;" + "thing at 1 worth 10;".repeat(3));
        T.due("deals(0) of like ones", y.deals(0), 0);
        T.due("deals(1) of like ones", y.deals(1), 1);
        T.due("deals(2) of like ones", y.deals(2), -1);
        y.rate(1, 11);
        y.rate(2, 11);
        T.due("deals(0), only without", y.deals(0), -1);
        T.due("deals(1), then the first", y.deals(1), 0);
        T.due("deals(2), then the other", y.deals(2), 1);
    }

    /** What 0, 1, 2 lose if they are not locked: 40, 7, 0. */
    private static ReceiptLeft losses() {
        ReceiptLeft x = Checks.told(THREE);
        x.want(0, 0, 40);
        x.want(0, 3, 39);
        x.want(1, 1, 7);
        return x;
    }

    static void promise47() {
        ReceiptLeft x = losses();
        T.due("rests(0)", x.rests(0), 2);
        T.due("rests(6)", x.rests(6), 1);
        T.due("rests(7)", x.rests(7), 2);
        T.due("rests(8)", x.rests(8), 1);
        T.due("rests(40)", x.rests(40), 2);
        T.due("rests(999)", x.rests(999), 1);
        T.due("rests(1000)", x.rests(1000), -2);
        T.due("rests(-1)", x.rests(-1), -2);
        T.due("rests(0) of who lose nothing", Checks.told(THREE).rests(0), 8);
        T.due("rests(0) with no CITY", new ReceiptLeft().rests(0), -2);
        x.steal(2, 0, 9);
        // 0 has THING 3 alone, 2 has THINGS 0 and 2, wanted 25 and 0 more
        T.due("rests(25) behind a theft", x.rests(25), 2);
        T.due("rests(40) behind a theft", x.rests(40), 1);
    }

    static void promise48() {
        ReceiptLeft x = losses();
        T.due("rest(0)", x.rest(0), 0b011);
        T.due("rest(6)", x.rest(6), 0b011);
        T.due("rest(7)", x.rest(7), 0b001);
        T.due("rest(39)", x.rest(39), 0b001);
        T.due("rest(40)", x.rest(40), 0);
        T.due("rest(999)", x.rest(999), 0);
        T.due("rest(1000)", x.rest(1000), -2);
        T.due("rest(-1)", x.rest(-1), -2);
        T.due("rest(0) with no CITY", new ReceiptLeft().rest(0), -2);
    }

    static void promise49() {
        ReceiptLeft x = losses();
        T.due("dear(), one loses nothing", x.dear(), 0);
        x.want(2, 2, 9);
        T.due("dear()", x.dear(), 7);
        x.want(1, 1, 500);
        T.due("dear(), another is the least", x.dear(), 9);
        x.want(0, 0, 8);
        x.want(0, 3, 0);
        T.due("dear(), HOUSE 0 is the least", x.dear(), 8);
        T.due("dear() with no HOUSES", Checks.told(HEAD).dear(), 999);
        T.due("dear() with no CITY", new ReceiptLeft().dear(), -2);
    }

    // ---- false papers ----

    /** Told: PAPER 0; it once more; PAPER 1 by a wrong worth; PAPER 2 by a wrong DAY; PAPER 0 by a wrong worth. */
    private static ReceiptLeft told() {
        ReceiptLeft x = thefts();
        row(x, 1, 2, 1, 0, 200, 5, 1, 0, 200, 5, 0, 2, 81, 3, 2, 3, 30, 4, 1, 0, 9999, 5);
        return x;
    }

    private static void refusals(String name, java.util.function.ToIntBiFunction<ReceiptLeft, Integer> call) {
        ReceiptLeft x = thefts();
        T.due(name + "(4)", call.applyAsInt(x, 4), -2);
        T.due(name + "(-1)", call.applyAsInt(x, -1), -2);
        T.due(name + "(0) of nothing", call.applyAsInt(x, 0), -6);
        T.due(name + "(0) with no CITY", call.applyAsInt(new ReceiptLeft(), 0), -2);
        row(x, 0, 3, 1, 0, 200, 5, 1, 0, 200);
        T.due(name + "(0), not four each", call.applyAsInt(x, 0), -2);
        long[][] none = {{3, 0, 200, 5}, {-1, 0, 200, 5}, {1, 4, 200, 5}, {1, -1, 200, 5}, {1, 0, 10000, 5}, {1, 0, -1, 5},
            {1, 0, 200, 0}, {1, 0, 200, 61}};
        for (long[] numbers : none) {
            row(x, 0, 3, numbers);
            T.due(name + "(0), a number is none such", call.applyAsInt(x, 0), -2);
        }
    }

    static void promise50() {
        ReceiptLeft x = told();
        T.due("wrong(1)", x.wrong(1), 4);
        x.strike(0);
        T.due("wrong(1) behind a strike", x.wrong(1), 5);
        row(x, 2, 0);
        T.due("wrong(2) of no numbers", x.wrong(2), 0);
        row(x, 2, 0, 2, 3, 30, 5, 0, 2, 80, 3);
        T.due("wrong(2), all are", x.wrong(2), 0);
        row(x, 2, 3, 0, 3, 0, 60, 0, 0, 9999, 1);
        T.due("wrong(2), none is", x.wrong(2), 2);
        refusals("wrong", ReceiptLeft::wrong);
        // two alike stand for two
        ReceiptLeft y = twofold();
        y.steal(2, 0, 9);
        row(y, 0, 0, 1, 0, 10, 9, 1, 0, 10, 9, 1, 0, 10, 9);
        T.due("wrong(0) of two PAPERS alike", y.wrong(0), 1);
    }

    static void promise51() {
        ReceiptLeft x = told();
        T.due("forged(1)", x.forged(1), 1);
        x.strike(0);
        T.due("forged(1) behind a strike", x.forged(1), 0);
        row(x, 2, 0, 2, 3, 30, 5, 0, 2, 80, 3);
        T.due("forged(2), none", x.forged(2), -1);
        row(x, 2, 0);
        T.due("forged(2) of no numbers", x.forged(2), -1);
        refusals("forged", ReceiptLeft::forged);
    }

    static void promise52() {
        ReceiptLeft x = told();
        T.due("argued(1)", x.argued(1), 2);
        x.strike(1);
        T.due("argued(1) behind a strike", x.argued(1), 1);
        row(x, 2, 0, 1, 0, 20, 4, 2, 0, 20, 5, 1, 1, 20, 5);
        T.due("argued(2), not alone", x.argued(2), 0);
        row(x, 2, 0);
        T.due("argued(2) of no numbers", x.argued(2), 0);
        refusals("argued", ReceiptLeft::argued);
    }

    // ---- nights drawn ----
    // By seed 1 the draws are 16838, 5758, 10113, 17515, 31051, 5627, 23010, 7419, 16212, 4086.

    private static String gamblers(int odds) {
        return "city eats 0 carry 1 odds " + odds + ";house purse 5;house purse 7;thing at 1 worth 10;thing at 0 worth 20;";
    }

    /** HOUSE 0 is locked: what it steals is safe till it brings it back. */
    private static String safe(int odds) {
        return "city eats 0 carry 1 odds " + odds + ";house purse 5 locked;house purse 7;thing at 1 worth 10;";
    }

    static void promise53() {
        ReceiptLeft x = Checks.told(gamblers(50));
        // 38, THING 0; 13, THING 1 | 51; 27, THING 0 | 19, THING 0; 86
        T.due("drawn(1, 0, 1)", x.drawn(1, 0, 1), 0);
        T.due("drawn(1, 1, 1)", x.drawn(1, 1, 1), 2);
        T.due("drawn(1, 2, 1)", x.drawn(1, 2, 1), 3);
        T.due("drawn(1, 3, 1)", x.drawn(1, 3, 1), 4);
        T.due("drawn(1, 3, 0)", x.drawn(1, 3, 0), 0);
        T.due("drawn(1, 3, 2)", x.drawn(1, 3, 2), 5);
        stays("asked alone", x, 0, 0, 0);
        T.due("38 is not below 38", Checks.told(safe(38)).drawn(1, 1, 1), 0);
        T.due("38 is below 39", Checks.told(safe(39)).drawn(1, 1, 1), 1);
        // by seed 5: 55, 57: nobody steals, and what 0 owes falls due
        x.steal(0, 0, 1);
        x.steal(1, 0, 9);
        T.due("drawn(5, 1, 0)", x.drawn(5, 1, 0), 1);
        T.due("drawn(5, 1, 1)", x.drawn(5, 1, 1), 2);
        T.due("drawn(5, 1, 2)", x.drawn(5, 1, 2), 5);
        x.anew();
        x.rate(0, 4);
        x.steal(0, 0, 1);
        x.steal(1, 0, 9);
        T.due("drawn(5, 1, 0), who can pay", x.drawn(5, 1, 0), 0);
        T.due("drawn(5, 1, 2), who paid", x.drawn(5, 1, 2), 1);
        int[][] none = {{-1, 1, 0}, {2000000001, 1, 0}, {1, -1, 0}, {1, 41, 0}, {1, 1, -1}, {1, 1, 3}};
        for (int[] n : none) {
            T.due("drawn(" + n[0] + ", " + n[1] + ", " + n[2] + ")", x.drawn(n[0], n[1], n[2]), -2);
        }
        T.due("drawn(2000000000, 0, 2)", x.drawn(2000000000, 0, 2), 5);
        T.due("drawn(0, 40, 1) of no THINGS", Checks.told("city eats 0 carry 1 odds 100;house purse 5;").drawn(0, 40, 1), 0);
        T.due("drawn(1, 3, 2) with no HOUSES", Checks.told(HEAD).drawn(1, 3, 2), -1);
        T.due("drawn(1, 3, 2) with one HOUSE", Checks.told(HEAD + "house purse 8;").drawn(1, 3, 2), 8);
        T.due("drawn(1, 1, 0) with no CITY", new ReceiptLeft().drawn(1, 1, 0), -2);
    }

    static void promise54() {
        ReceiptLeft x = Checks.told(safe(39));
        // the first draws of 100 by seeds 1 to 5: 38, 8, 47, 17, 55
        T.due("luck(1, 1, 1, 0, 0)", x.luck(1, 1, 1, 0, 0), 1);
        T.due("luck(1, 5, 1, 0, 0)", x.luck(1, 5, 1, 0, 0), 3);
        T.due("luck(1, 5, 1, 0, 1)", x.luck(1, 5, 1, 0, 1), 2);
        T.due("luck(1, 20, 0, 0, 1)", x.luck(1, 20, 0, 0, 1), 20);
        T.due("luck(1, 20, 0, 0, 0)", x.luck(1, 20, 0, 0, 0), 0);
        // it is to be returned in 7 DAYS
        T.due("luck(1, 1, 6, 0, 0)", x.luck(1, 1, 6, 0, 0), 1);
        T.due("luck(1, 1, 7, 0, 0)", x.luck(1, 1, 7, 0, 0), 0);
        T.due("luck(1, 1, 7, 0, 1)", x.luck(1, 1, 7, 0, 1), 1);
        stays("asked alone", x, 0, 0, 0);
        int[][] none = {{-1, 1, 1, 0, 0}, {2000000001, 1, 1, 0, 0}, {1, 0, 1, 0, 0}, {1, 21, 1, 0, 0}, {1, 1, -1, 0, 0},
            {1, 1, 41, 0, 0}, {1, 1, 1, -1, 0}, {1, 1, 1, 1, 0}, {1, 1, 1, 0, -1}, {1, 1, 1, 0, 2}};
        for (int[] n : none) {
            T.due("luck(" + n[0] + ", " + n[1] + ", " + n[2] + ", " + n[3] + ", " + n[4] + ")",
                x.luck(n[0], n[1], n[2], n[3], n[4]), -2);
        }
        T.due("luck(2000000000, 20, 0, 0, 1)", x.luck(2000000000, 20, 0, 0, 1), 20);
        T.due("luck(1, 1, 1, 0, 0) with no CITY", new ReceiptLeft().luck(1, 1, 1, 0, 0), -2);
    }

    // ---- the city told otherwise ----

    static void promise55() {
        ReceiptLeft x = Checks.told(THREE);
        T.due("rate(0, 10)", x.rate(0, 10), 200);
        T.due("its worth", x.thing(0, 0), 10);
        T.due("its VALUE", x.value(1, 0), 80);
        T.due("rate(0, 999)", x.rate(0, 999), 10);
        T.due("rate(0, 1)", x.rate(0, 1), 999);
        T.due("rate(0, 0)", x.rate(0, 0), -2);
        T.due("rate(0, 1000)", x.rate(0, 1000), -2);
        T.due("rate(4, 1)", x.rate(4, 1), -2);
        T.due("rate(-1, 1)", x.rate(-1, 1), -2);
        T.due("its worth stays", x.thing(0, 0), 1);
        x.lock(0, 1);
        T.due("rate(0, 5) behind an act", x.rate(0, 5), -5);
        T.due("-2 ahead of -5", x.rate(0, 0), -2);
        T.due("its worth is not another", x.thing(0, 0), 1);
        x.undo();
        T.due("rate(0, 5), the act taken back", x.rate(0, 5), 1);
        x.lock(0, 1);
        x.anew();
        T.due("it is no act", x.thing(0, 0), 5);
    }

    static void promise56() {
        ReceiptLeft x = Checks.told(THREE);
        T.due("want(1, 0, 0)", x.want(1, 0, 0), 70);
        T.due("its VALUE", x.value(1, 0), 200);
        T.due("want(1, 0, 500)", x.want(1, 0, 500), 0);
        T.due("its VALUE, wanted most", x.value(1, 0), 700);
        T.due("another's", x.value(2, 0), 225);
        T.due("want(1, 0, 501)", x.want(1, 0, 501), -2);
        T.due("want(1, 0, -1)", x.want(1, 0, -1), -2);
        T.due("want(3, 0, 1)", x.want(3, 0, 1), -2);
        T.due("want(-1, 0, 1)", x.want(-1, 0, 1), -2);
        T.due("want(0, 4, 1)", x.want(0, 4, 1), -2);
        T.due("want(0, -1, 1)", x.want(0, -1, 1), -2);
        x.night();
        T.due("want(1, 0, 5) behind an act", x.want(1, 0, 5), -5);
        T.due("-2 ahead of -5", x.want(1, 0, 501), -2);
        T.due("its VALUE stays", x.value(1, 0), 700);
        x.anew();
        T.due("want(1, 0, 5), the act taken back", x.want(1, 0, 5), 500);
    }

    static void promise57() {
        ReceiptLeft x = thefts();
        x.night();
        Checks.put(x, "city");
        x.row(0, 0, 0);
        x.row(3, 3, 60);
        int[] counts = {10, 2, 30, 3, 4, 3, 4, 13, 4, 2};
        for (int what = 0; what < counts.length; what++) {
            T.due("count(" + what + ")", x.count(what), counts[what]);
        }
        T.due("count(10)", x.count(10), -1);
        T.due("count(-1)", x.count(-1), -1);
        x.strike(0);
        T.due("PAPERS that are STRUCK are PAPERS", x.count(5), 3);
        x.undo();
        x.undo();
        T.due("acts that are not taken back", x.count(6), 3);
        x.row(3, 2, 5);
        T.due("a row in place of another", x.count(9), 2);
    }

    static void promise58() {
        ReceiptLeft x = thefts();
        T.due("image(0)", x.image(0), 0);
        T.due("image(2)", x.image(2), 0);
        T.due("image(3)", x.image(3), -2);
        T.due("image(-1)", x.image(-1), -2);
        stays("an image is no act", x, 3, 3, 0);
        x.anew();
        x.rate(0, 7);
        T.due("image(2) in place of another", x.image(2), 0);
        x.back(0);
        T.due("IMAGE 0 keeps acts", x.count(6), 3);
        T.due("IMAGE 0 keeps the CITY", x.thing(0, 0), 200);
        x.back(2);
        T.due("IMAGE 2 keeps its acts", x.count(6), 0);
        T.due("IMAGE 2 keeps its CITY", x.thing(0, 0), 7);
        T.due("IMAGE 1 has nothing", x.back(1), -6);
        x.back(0);
        x.anew();
        x.night();
        x.night();
        x.night();
        x.back(0);
        T.due("IMAGE 0 keeps which acts they were", x.now(1), 0b111);
        ReceiptLeft y = new ReceiptLeft();
        T.due("image(0) with no CITY", y.image(0), 0);
        Checks.put(y, THREE);
        y.city();
        y.back(0);
        T.due("it keeps that there is none", y.now(0), -2);
    }

    static void promise59() {
        ReceiptLeft x = debts(DEBTS);
        x.sell(1, 2);
        x.lock(2, 1);
        x.night();
        x.night();
        x.image(1);
        Checks.put(x, HEAD);
        x.city();
        Checks.put(x, "city");
        x.row(0, 0, 4);
        T.due("back(1)", x.back(1), 0);
        stays("as it was", x, 8, 4, 2);
        house(x, 0, 5, 0, 0b010, 0, 0);
        house(x, 1, 25, 0, 0b001, 0b1000, 0b0100);
        house(x, 2, 50, 1, 0b100, 0b0100, 0b1000);
        T.due("the TAPE stays", x.count(8), 4);
        T.due("rows stay", x.count(9), 1);
        T.due("its acts can be taken back", x.undo(), 7);
        T.due("to the DAY ahead", x.now(0), 1);
        T.due("back(1) again", x.back(1), 0);
        T.due("to the same DAY", x.now(0), 2);
        T.due("back(0) of nothing", x.back(0), -6);
        T.due("back(3)", x.back(3), -2);
        T.due("back(-1)", x.back(-1), -2);
        stays("refused ways back", x, 8, 4, 2);
    }

    // ---- rows: their numbers are seen by wrong, with PAPER 2 (2, 3, 30, 5) ----

    static void promise60() {
        ReceiptLeft x = thefts();
        T.due("row(0, 0, 4)", x.row(0, 0, 4), 0);
        T.due("a SLOT has a row", x.count(9), 1);
        T.due("row(3, 3, 60)", x.row(3, 3, 60), 0);
        T.due("row(0, 0, 61)", x.row(0, 0, 61), -2);
        T.due("row(4, 0, 1)", x.row(4, 0, 1), -2);
        T.due("row(-1, 0, 1)", x.row(-1, 0, 1), -2);
        T.due("row(0, 4, 1)", x.row(0, 4, 1), -2);
        T.due("row(0, -1, 1)", x.row(0, -1, 1), -2);
        T.due("row(4, 0, -1), -2 first", x.row(4, 0, -1), -2);
        row(x, 0, 1, 2, 3, 30, 5);
        T.due("row(0, 0, -1)", x.row(0, 0, -1), -3);
        T.due("the SLOT stays", x.wrong(0), 0);
        T.due("row(1, 0, -1)", x.row(1, 0, -1), -3);
        T.due("nothing stays nothing", x.write(1, 0, 1), -6);
        T.due("row(0, 1, 4) in place of another", x.row(0, 1, 4), 0);
        // all 0: a DAY of 0 is none such
        T.due("all are 0", x.wrong(0), -2);
        x.write(0, 3, 5);
        T.due("all others are 0", x.wrong(0), 1);
        T.due("row(0, 0, 0)", x.row(0, 0, 0), 0);
        T.due("a row of none is a row", x.wrong(0), 0);
        T.due("it has no number 0", x.write(0, 0, 1), -7);
    }

    static void promise61() {
        ReceiptLeft x = thefts();
        T.due("write(0, 0, 1) of nothing", x.write(0, 0, 1), -6);
        T.due("write(4, 0, 1)", x.write(4, 0, 1), -2);
        T.due("write(-1, 0, 1)", x.write(-1, 0, 1), -2);
        long[] beyond = {1L << 8, 1L << 16, 1L << 32, 0};
        for (int width = 0; width < 4; width++) {
            row(x, width, width, 2, 3, 30, 5);
            T.due("write to WIDTH " + width, x.wrong(width), 0);
            T.due("write, cut to WIDTH " + width, x.write(width, 2, 30 + beyond[width]), 0);
            T.due("it is cut", x.wrong(width), 0);
            T.due("write(" + width + ", 4, 1)", x.write(width, 4, 1), -7);
            T.due("write(" + width + ", -1, 1)", x.write(width, -1, 1), -7);
        }
        row(x, 0, 1, 2, 3, 9999, 5);
        T.due("two bytes hold 9,999", x.argued(0), 1);
        row(x, 0, 0, 2, 3, 9999, 5);
        // 9,999 is 39 * 256 + 15
        T.due("one byte holds 15 of it", x.argued(0), 1);
        row(x, 0, 2, 2, 3, 30 + (1L << 31), 5);
        T.due("four bytes hold 2^31", x.wrong(0), -2);
        row(x, 0, 3, 2, 3, 30 + (1L << 32), 5);
        T.due("eight bytes hold 2^32", x.wrong(0), -2);
    }

    static void promise62() {
        ReceiptLeft x = thefts();
        row(x, 0, 1, 2, 3, 30, 5, 0, 0, 0, 0);
        x.row(1, 1, 4);
        T.due("paste(0, 0, 1, 0, 4)", x.paste(0, 0, 1, 0, 4), 0);
        T.due("they are there", x.wrong(1), 0);
        x.row(1, 1, 4);
        T.due("paste to its own, by one", x.paste(0, 0, 0, 1, 7), 0);
        T.due("paste from one on", x.paste(0, 1, 1, 0, 4), 0);
        T.due("they are as they were", x.wrong(1), 0);
        T.due("paste back by one", x.paste(0, 1, 0, 0, 7), 0);
        T.due("paste to the first", x.paste(0, 0, 1, 0, 4), 0);
        T.due("they are as they were, too", x.wrong(1), 0);
        T.due("paste beyond its row", x.paste(0, 5, 1, 0, 4), -7);
        T.due("paste beyond the other's", x.paste(0, 0, 1, 1, 4), -7);
        T.due("paste from below 0", x.paste(0, -1, 1, 0, 1), -7);
        T.due("paste to below 0", x.paste(0, 0, 1, -1, 1), -7);
        T.due("paste fewer than 0", x.paste(0, 0, 1, 0, -1), -7);
        T.due("paste the most", x.paste(0, 1, 1, 0, Integer.MAX_VALUE), -7);
        T.due("nothing happened", x.wrong(1), 0);
        T.due("paste none", x.paste(0, 8, 1, 4, 0), 0);
        T.due("paste to nothing", x.paste(0, 0, 2, 0, 1), -6);
        T.due("paste from nothing", x.paste(2, 0, 0, 0, 1), -6);
        T.due("paste to no SLOT", x.paste(0, 0, 4, 0, 1), -2);
        T.due("paste from no SLOT", x.paste(4, 0, 0, 0, 1), -2);
        T.due("paste to SLOT -1", x.paste(0, 0, -1, 0, 1), -2);
        T.due("paste from SLOT -1", x.paste(-1, 0, 0, 0, 1), -2);
        T.due("-2 ahead of -6", x.paste(2, 0, 4, 0, 1), -2);
        x.row(3, 2, 8);
        T.due("paste to another WIDTH", x.paste(0, 0, 3, 0, 1), -8);
        T.due("-8 ahead of -7", x.paste(0, 9, 3, 0, 1), -8);
    }
}
