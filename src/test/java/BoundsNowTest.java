/** Boundary cases of Terms II and promises 6 to 11 and 20: each sentence by a method of its own. */
public final class BoundsNowTest {
    private static final Checks T = new Checks("BoundsNowTest");
    private static final Bounds B = new Bounds(T);

    public static void main(String[] args) {
        houseOfNoneSuch();
        houseBits();
        thingOfNoneSuch();
        thingNowAndAtFirst();
        valueOfNoneSuch();
        valueWithout();
        paperOfNoneSuch();
        papersNumberedAsTheyCome();
        paperHow();
        priceOfNoneSuch();
        priceOfClosedOnes();
        priceDayByDay();
        priceOfLeastAndMost();
        netOfNoneSuch();
        netOfLeastAndMost();
        netOfOpenOnes();
        nowOfNoneSuch();
        nowOfFullOnes();
        T.finish();
    }

    private static void houseOfNoneSuch() {
        // 6: -2: there are none such
        for (int what = 0; what < 5; what++) {
            int of = what;
            B.edges("house(n, " + what + ")", Bounds::withPapers, (x, n) -> x.house(n, of), 0, 4, -2);
            B.edges("house(n, " + what + ") of two", Bounds::noThings, (x, n) -> x.house(n, of), 0, 1, -2);
        }
        for (int house = 0; house < 5; house++) {
            int h = house;
            B.edges("house(" + house + ", n)", Bounds::withPapers, (x, n) -> x.house(h, n), 0, 4, -2);
        }
    }

    private static void houseBits() {
        // 6: 2: THINGS in it, 3: OPEN PAPERS it holds, 4: of which it is the THIEF, as bits: none, the first, the last, all
        ReceiptLeft x = Checks.told(Bounds.FULL.replace(" locked", ""));
        T.due("no PAPERS held", x.house(0, 3), 0);
        T.due("no PAPERS of it", x.house(0, 4), 0);
        int[] all = {1, 2, 3, 4};
        for (int thing : all) {
            x.steal(0, thing, 9);
        }
        T.due("all six THINGS", x.house(0, 2), 0b111111);
        T.due("none", x.house(4, 2), 0);
        T.due("the first PAPER", x.house(1, 3), 0b0001);
        T.due("the last PAPER", x.house(4, 3), 0b1000);
        T.due("all PAPERS", x.house(0, 4), 0b1111);
        ReceiptLeft y = Bounds.made(Bounds::crowded);
        T.due("every second of 24, held", y.house(0, 3), 0x555555);
        T.due("every second of 24, as THIEF", y.house(0, 4), 0xAAAAAA);
        T.due("the others, held", y.house(1, 3), 0xAAAAAA);
        y.strike(23);
        y.strike(1);
        T.due("without closed ones, held", y.house(1, 3), 0x2AAAA8);
        T.due("without closed ones, as THIEF", y.house(0, 4), 0x2AAAA8);
        ReceiptLeft z = Bounds.made(Bounds::hows);
        T.due("of five one is OPEN, held", z.house(1, 3), 0b10000);
        T.due("of five one is OPEN, as THIEF", z.house(2, 4), 0b10000);
        T.due("none of its three is OPEN", z.house(0, 4), 0);
    }

    private static void thingOfNoneSuch() {
        // 7: -2: there are none such
        for (int what = 0; what < 3; what++) {
            int of = what;
            B.edges("thing(n, " + what + ")", Bounds::withPapers, (x, n) -> x.thing(n, of), 0, 5, -2);
        }
        for (int thing = 0; thing < 6; thing++) {
            int t = thing;
            B.edges("thing(" + thing + ", n)", Bounds::withPapers, (x, n) -> x.thing(t, n), 0, 2, -2);
        }
        B.never("thing(n, 0) of none", Bounds::noThings, (x, n) -> x.thing(n, 0), -2);
    }

    private static void thingNowAndAtFirst() {
        // 7: 1: the HOUSE in which it is now, 2: that in which it was at first
        ReceiptLeft x = Bounds.made(Bounds::withPapers);
        T.due("now", x.thing(0, 1), 2);
        T.due("at first", x.thing(0, 2), 0);
        x.brings(2);
        T.due("now, brought back", x.thing(0, 1), 1);
        T.due("at first, as ever", x.thing(0, 2), 0);
        x.anew();
        T.due("now, anew", x.thing(0, 1), 0);
        T.due("one that never went", x.thing(4, 1) * 10 + x.thing(4, 2), 44);
    }

    private static void valueOfNoneSuch() {
        // 8: -2: there are none such
        B.edges("value(n, 5)", Bounds::withPapers, (x, n) -> x.value(n, 5), 0, 4, -2);
        B.edges("value(4, n)", Bounds::withPapers, (x, n) -> x.value(4, n), 0, 5, -2);
        B.never("value(0, n) without THINGS", Bounds::noThings, (x, n) -> x.value(0, n), -2);
        B.never("value(n, 0) without HOUSES", Bounds::headAlone, (x, n) -> x.value(n, 0), -2);
    }

    private static void valueWithout() {
        // II: VALUE: its worth and what the HOUSE wants it more (0 without)
        ReceiptLeft x = Bounds.made(Bounds::full);
        T.due("without", x.value(0, 0), 40);
        T.due("with", x.value(1, 0), 45);
        T.due("the last of both", x.value(4, 5), 501);
        x.rate(5, 999);
        T.due("the most there is", x.value(4, 5), 1499);
        x.rate(5, 1);
        x.want(4, 5, 0);
        T.due("the least there is", x.value(4, 5), 1);
    }

    private static void paperOfNoneSuch() {
        // 9: -2: there are none such
        for (int what = 0; what < 5; what++) {
            int of = what;
            B.edges("paper(n, " + what + ") of three", Bounds::withPapers, (x, n) -> x.paper(n, of), 0, 2, -2);
            B.edges("paper(n, " + what + ") of 24", Bounds::crowded, (x, n) -> x.paper(n, of), 0, 23, -2);
        }
        B.edges("paper(0, n)", Bounds::withPapers, (x, n) -> x.paper(0, n), 0, 4, -2);
        B.edges("paper(23, n)", Bounds::crowded, (x, n) -> x.paper(23, n), 0, 4, -2);
    }

    private static void papersNumberedAsTheyCome() {
        // II: PAPERS 0 .. 23 are numbered as they come
        ReceiptLeft x = Bounds.made(Bounds::crowded);
        for (int paper = 0; paper < 24; paper++) {
            T.due("THIEF of " + paper, x.paper(paper, 0), 1 - paper % 2);
            T.due("THING of " + paper, x.paper(paper, 1), 0);
            T.due("HOLDER of " + paper, x.paper(paper, 2), paper % 2);
            T.due("DAY of " + paper, x.paper(paper, 3), 60);
            T.due("how " + paper + " is", x.paper(paper, 4), 0);
        }
        ReceiptLeft y = Bounds.made(Bounds::withPapers);
        y.strike(2);
        T.due("a closed one keeps its number", y.steal(3, 1, 9), 3);
        y.undo();
        T.due("one taken back gives it free", y.steal(3, 2, 9), 3);
    }

    private static void paperHow() {
        // II: OPEN (0), RETURNED (1), PAID (2), FAILED (3), STRUCK (4)
        ReceiptLeft x = Bounds.made(Bounds::hows);
        int[] how = {1, 2, 3, 4, 0};
        for (int paper = 0; paper < 5; paper++) {
            T.due("how " + paper + " is", x.paper(paper, 4), how[paper]);
        }
        T.due("brings(4)", x.brings(4), 1);
        T.due("RETURNED by hand", x.paper(4, 4), 1);
    }

    private static void priceOfNoneSuch() {
        // 10: -2: there is none such
        B.edges("price of three", Bounds::withPapers, (x, n) -> x.price(n), 0, 2, -2);
        B.edges("price of 24", Bounds::crowded, (x, n) -> x.price(n), 0, 23, -2);
    }

    private static void priceOfClosedOnes() {
        // 10: NONE: it is not OPEN
        for (int paper = 0; paper < 4; paper++) {
            int p = paper;
            B.stays("price(" + paper + ")", Bounds::hows, x -> x.price(p), -1);
        }
        T.due("price(4) is OPEN", Bounds.made(Bounds::hows).price(4), 2);
    }

    private static void priceDayByDay() {
        // II: for each DAY from now to its DAY times (100 less eats) by 100, cut
        ReceiptLeft x = Checks.told("city eats 50 carry 1 odds 0;house purse 0;house purse 0;thing at 0 worth 999;");
        x.steal(1, 0, 10);
        int[] price = {0, 1, 3, 7, 15, 31, 62, 124, 249, 499};
        for (int day = 0; day < 10; day++) {
            T.due("price on DAY " + day, x.price(0), price[day]);
            x.night();
        }
        T.due("price when it is due", x.price(0), -1);
        // 19 x 0.9 = 17.1, 17 x 0.9 = 15.3, 15 x 0.9 = 13.5, 13 x 0.9 = 11.7; not cut between it would be 12.4
        ReceiptLeft y = Checks.told("city eats 10 carry 1 odds 0;house purse 0;house purse 0;thing at 0 worth 19;");
        y.steal(1, 0, 4);
        T.due("each DAY is cut by itself", y.price(0), 11);
    }

    private static void priceOfLeastAndMost() {
        // II, I: eats 0 and 50, worth 1 and 999, a DAY and 60 DAYS ahead
        int[][] due = {{0, 999, 60, 999}, {0, 1, 60, 1}, {0, 999, 1, 999}, {50, 1, 1, 0}, {50, 2, 1, 1}, {50, 999, 1, 499}, {50, 999, 60, 0},
            {1, 999, 1, 989}, {1, 1, 1, 0}, {1, 100, 1, 99}};
        for (int[] d : due) {
            ReceiptLeft x = Checks.told("city eats " + d[0] + " carry 1 odds 0;house purse 0;house purse 0;thing at 0 worth " + d[1] + ";");
            x.steal(1, 0, d[2]);
            T.due("price of " + d[1] + " in " + d[2] + " days, eats " + d[0], x.price(0), d[3]);
        }
        ReceiptLeft x = Checks.told("city eats 0 carry 1 odds 0;house purse 0;house purse 0;thing at 0 worth 999;");
        for (int i = 0; i < 59; i++) {
            x.night();
        }
        x.steal(1, 0, 60);
        T.due("price on the last DAY but one", x.price(0), 999);
    }

    private static void netOfNoneSuch() {
        // 11: -100,000: there is none such
        B.edges("net", Bounds::withPapers, (x, n) -> x.net(n), 0, 4, -100000);
        B.edges("net of two", Bounds::noThings, (x, n) -> x.net(n), 0, 1, -100000);
        B.never("net without HOUSES", Bounds::headAlone, (x, n) -> x.net(n), -100000);
    }

    private static void netOfLeastAndMost() {
        // II: NET, far above nothing and below
        StringBuilder text = new StringBuilder("city eats 0 carry 1 odds 0;house purse 9999;house purse 0;");
        text.append("thing at 0 worth 999;".repeat(6));
        for (int thing = 0; thing < 6; thing++) {
            text.append("want 0 ").append(thing).append(" 500;");
        }
        ReceiptLeft x = Checks.told(text.toString());
        T.due("the most at first", x.net(0), 9999 + 6 * 1499);
        T.due("nothing", x.net(1), 0);
        for (int i = 0; i < 24; i++) {
            x.steal(1 - i % 2, 0, 60);
        }
        T.due("PAPERS of both weigh each other out", x.net(1), 0);
        for (int i = 1; i < 24; i += 2) {
            x.strike(i);
        }
        T.due("a debtor of twelve", x.net(1), -12 * 999);
        T.due("his creditor", x.net(0), 9999 + 6 * 1499 + 12 * 999);
    }

    private static void netOfOpenOnes() {
        // II: OPEN PAPERS alone
        ReceiptLeft x = Bounds.made(Bounds::hows);
        // HOUSE 0 has 5 - 5 and THINGS 1 and 2; 1 has 5 and THING 0, and holds one of 2; 2 has THINGS 3 and 4
        T.due("net(0), its three are closed", x.net(0), 14);
        T.due("net(1), it holds one of four", x.net(1), 5 + 5 + 2);
        T.due("net(2), of its two one is STRUCK", x.net(2), 100 + 1 + 2 - 2);
    }

    private static void nowOfNoneSuch() {
        // 20: -2: there is no CITY, no such what
        B.edges("now", Bounds::withPapers, (x, n) -> x.now(n), 0, 3, -2);
        B.edges("now without HOUSES", Bounds::headAlone, (x, n) -> x.now(n), 0, 3, -2);
        B.never("now with no CITY", Bounds::nothing, (x, n) -> x.now(n), -2);
    }

    private static void nowOfFullOnes() {
        // 20: DAY, OPEN PAPERS, how many have FAILED, all purses: the least and the most
        ReceiptLeft x = Bounds.made(Bounds::crowded);
        T.due("all 24 are OPEN", x.now(1), 0xFFFFFF);
        T.due("all purses", x.now(3), 100 + 200 + 300 + 9999);
        ReceiptLeft y = Checks.told("city eats 0 carry 1 odds 0;" + "house purse 9999;".repeat(5));
        T.due("the fullest purses", y.now(3), 49995);
        for (int day = 1; day <= 60; day++) {
            y.night();
            T.due("DAY " + day, y.now(0), day);
        }
        // all but the last THIEF's have no THING to bring, and no purse
        ReceiptLeft z = Checks.told("city eats 0 carry 1 odds 0;house purse 0;house purse 0;thing at 0 worth 9;");
        for (int i = 0; i < 24; i++) {
            z.steal(1 - i % 2, 0, 2);
        }
        T.due("none has FAILED", z.now(2), 0);
        z.night();
        T.due("none is due", z.now(2), 0);
        int failed = z.night();
        T.due("how many have FAILED", z.now(2), failed);
        T.due("all are closed", z.now(1), 0);
        z.night();
        T.due("as many behind the next", z.now(2), failed);
        z.undo();
        z.undo();
        T.due("none, taken back", z.now(2), 0);
        ReceiptLeft w = Bounds.made(Bounds::hows);
        T.due("of each kind one is OPEN", w.now(1), 0b10000);
        T.due("of each kind one has FAILED", w.now(2), 1);
    }
}
