/** Promises 42 to 49: what to steal, what both would change, to whom things should go, locks at rest. */
public final class PlansTest {
    private static final Checks T = new Checks("PlansTest");

    public static void main(String[] args) {
        plans();
        changes();
        deals();
        rests();
        T.finish();
    }

    private static void plans() {
        ReceiptLeft x = Checks.told("city eats 0 carry 1 odds 0;house purse 0;house purse 0;house purse 0 locked;"
            + "thing at 1 worth 1;thing at 1 worth 900;thing at 1 worth 5;thing at 1 worth 6;thing at 2 worth 7;thing at 0 worth 8;"
            + "want 0 0 30;want 0 2 50;want 0 3 30;want 0 4 99;want 0 5 98;");
        T.due("plan(0, 1)", x.plan(0, 1), 50);
        T.due("plan(0, 2)", x.plan(0, 2), 80);
        T.due("plan(0, 3)", x.plan(0, 3), 110);
        T.due("plan(0, 4)", x.plan(0, 4), 110);
        int[] first = {2, 0, 3, -1};
        for (int i = 0; i < 4; i++) {
            T.due("plans(0, 4, " + i + ")", x.plans(0, 4, i), first[i]);
        }
        T.due("plans(0, 2, 1)", x.plans(0, 2, 1), 0);
        T.due("plans(0, 2, 2), beyond n", x.plans(0, 2, 2), -1);
        T.due("plans(0, 4, 4)", x.plans(0, 4, 4), -1);
        T.due("plans(0, 4, -1)", x.plans(0, 4, -1), -1);
        T.due("plan(1, 4), wanted nothing", x.plan(1, 4), 0);
        T.due("plans(1, 4, 0)", x.plans(1, 4, 0), -1);
        x.want(1, 5, 1);
        T.due("plan(1, 4), wanted 1 more", x.plan(1, 4), 1);
        T.due("plans(1, 4, 0), wanted 1 more", x.plans(1, 4, 0), 5);
        int net = x.net(0);
        x.steal(0, 2, 9);
        T.due("the net is so much more", x.net(0) - net, 50);
        T.due("plan(0, 1) behind it", x.plan(0, 1), 30);
        x.lock(2, 0);
        T.due("plan(0, 1), another unlocked", x.plan(0, 1), 99);
        T.due("plans(0, 1, 0), another unlocked", x.plans(0, 1, 0), 4);
        T.due("plan(0, 0)", x.plan(0, 0), -2);
        T.due("plan(0, 5)", x.plan(0, 5), -2);
        T.due("plan(3, 1)", x.plan(3, 1), -2);
        T.due("plan(-1, 1)", x.plan(-1, 1), -2);
        T.due("plans(0, 0, 0)", x.plans(0, 0, 0), -2);
        T.due("plans(0, 5, 0)", x.plans(0, 5, 0), -2);
        T.due("plans(3, 1, 0)", x.plans(3, 1, 0), -2);
        T.due("plans(3, 1, 9)", x.plans(3, 1, 9), -2);
    }

    private static void changes() {
        ReceiptLeft x = Checks.told("city eats 0 carry 1 odds 0;house purse 0;house purse 0;"
            + "thing at 0 worth 10;thing at 1 worth 10;thing at 0 worth 10;thing at 1 worth 10;"
            + "want 1 2 5;want 0 1 0001;want 0 3 5;");
        // 0 gives 0: 1 gains nothing by it (10 for 10); 2: 1 gains 5
        T.due("change(0, 1)", x.change(0, 1), 21);
        T.due("change(1, 0)", x.change(1, 0), 12);
        x.want(0, 1, 0);
        T.due("change(0, 1), as much is not more", x.change(0, 1), 23);
        x.want(0, 3, 0);
        T.due("change(0, 1) of none", x.change(0, 1), -1);
        x.want(0, 3, 5);
        x.steal(0, 3, 9);
        T.due("change(0, 1), it has it already", x.change(0, 1), -1);
        ReceiptLeft y = Checks.told("city eats 0 carry 1 odds 0;house purse 0;house purse 0;"
            + "thing at 0 worth 10;thing at 1 worth 10;want 1 0 1;want 0 1 1;");
        T.due("change(0, 1) of 0 for 1", y.change(0, 1), 1);
        T.due("change(1, 0) of 1 for 0", y.change(1, 0), 10);
        T.due("change(0, 0)", x.change(0, 0), -2);
        T.due("change(0, 2)", x.change(0, 2), -2);
        T.due("change(2, 0)", x.change(2, 0), -2);
        T.due("change(-1, 0)", x.change(-1, 0), -2);
        T.due("change(0, -1)", x.change(0, -1), -2);
    }

    private static void deals() {
        ReceiptLeft x = Checks.told("city eats 0 carry 1 odds 0;house purse 0;house purse 0;"
            + "thing at 0 worth 10;thing at 0 worth 20;thing at 1 worth 20;want 0 0 15;want 1 0 30;");
        // 0 to 1 (40) and one of 20 to 0
        T.due("deal()", x.deal(), 60);
        T.due("deals(0)", x.deals(0), 1);
        T.due("deals(1)", x.deals(1), 0);
        T.due("deals(2)", x.deals(2), -1);
        x.want(1, 0, 15);
        T.due("deal(), both the same", x.deal(), 45);
        T.due("deals(0), the least house", x.deals(0), 0);
        T.due("deals(1), the other", x.deals(1), 1);
        // a thing with no house rather than a lesser whole
        ReceiptLeft y = Checks.told("city eats 0 carry 1 odds 0;house purse 0;thing at 0 worth 1;thing at 0 worth 2;thing at 0 worth 2;");
        T.due("deal() of one house", y.deal(), 2);
        T.due("deals(0), only without", y.deals(0), -1);
        T.due("deals(1)", y.deals(1), 0);
        T.due("deals(2)", y.deals(2), -1);
        ReceiptLeft z = Checks.told("city eats 0 carry 1 odds 0;house purse 0;house purse 0;house purse 0;"
            + "thing at 0 worth 1;thing at 0 worth 2;want 0 0 3;want 0 1 4;want 2 0 1;want 2 1 1;");
        // 0: 4, 1, 2; 1: 6, 2, 3: 4 + 3 = 7, 2 + 6 = 8
        T.due("deals(1) asked first", z.deals(1), 0);
        T.due("deal() of more houses", z.deal(), 8);
        T.due("deals(0) of more houses", z.deals(0), 2);
        T.due("deals(1) of more houses", z.deals(1), 0);
        T.due("deals(2)", z.deals(2), -2);
        T.due("deals(-1)", z.deals(-1), -2);
        T.due("deal() of nothing", Checks.told("city eats 0 carry 1 odds 0;").deal(), 0);
        T.due("deal() of no things", Checks.told("city eats 0 carry 1 odds 0;house purse 1;").deal(), 0);
        T.due("deal() with no city", new ReceiptLeft().deal(), -2);
    }

    private static void rests() {
        ReceiptLeft x = Checks.told("city eats 0 carry 1 odds 0;house purse 0;house purse 0;house purse 0;"
            + "thing at 0 worth 10;thing at 1 worth 20;thing at 1 worth 30;thing at 2 worth 1;"
            + "want 0 0 8;want 1 1 3;want 1 2 8;want 2 3 20;want 0 3 500;");
        T.due("rests(8)", x.rests(8), 4);
        T.due("rest(8)", x.rest(8), 0b100);
        T.due("rests(7)", x.rests(7), 1);
        T.due("rest(7)", x.rest(7), 0b111);
        T.due("rests(9)", x.rests(9), 1);
        T.due("rest(9)", x.rest(9), 0b100);
        T.due("rest(21)", x.rest(21), 0);
        T.due("rests(0)", x.rests(0), 1);
        T.due("rests(999)", x.rests(999), 1);
        T.due("dear()", x.dear(), 8);
        x.steal(0, 2, 9);
        T.due("dear() behind a theft", x.dear(), 3);
        x.undo();
        x.want(0, 0, 2);
        T.due("dear() by the first house", x.dear(), 2);
        x.want(0, 0, 8);
        x.steal(0, 2, 9);
        x.steal(0, 1, 9);
        T.due("dear(), one without things", x.dear(), 0);
        T.due("rests(0), one without things", x.rests(0), 2);
        T.due("rest(0), one without things", x.rest(0), 0b101);
        T.due("rests(1000)", x.rests(1000), -2);
        T.due("rests(-1)", x.rests(-1), -2);
        T.due("rest(1000)", x.rest(1000), -2);
        T.due("rest(-1)", x.rest(-1), -2);
        ReceiptLeft y = Checks.told("city eats 0 carry 1 odds 0;");
        T.due("rests(5) of no houses", y.rests(5), 1);
        T.due("rest(5) of no houses", y.rest(5), 0);
        T.due("dear() of no houses", y.dear(), 999);
        ReceiptLeft z = new ReceiptLeft();
        T.due("rests(5) with no city", z.rests(5), -2);
        T.due("rest(5) with no city", z.rest(5), -2);
        T.due("dear() with no city", z.dear(), -2);
    }
}
