/** Promises 6 to 11: houses, things, values, papers, prices, nets. */
public final class HouseTest {
    private static final Checks T = new Checks("HouseTest");
    private static final String TEXT = "city eats 10 carry 1 odds 50;"
        + "house purse 100; house purse 50; house purse 20 locked;"
        + "thing at 0 worth 40; thing at 1 worth 30; thing at 2 worth 7; thing at 1 worth 99;"
        + "want 1 0 5; want 0 1 8; want 0 3 8; want 2 0 11;";

    public static void main(String[] args) {
        atFirst();
        withPapers();
        prices();
        noSuch();
        T.finish();
    }

    private static void atFirst() {
        ReceiptLeft x = Checks.told(TEXT);
        T.due("house(0, 0)", x.house(0, 0), 100);
        T.due("house(0, 1)", x.house(0, 1), 0);
        T.due("house(2, 1)", x.house(2, 1), 1);
        T.due("house(1, 2)", x.house(1, 2), 0b1010);
        T.due("house(1, 3)", x.house(1, 3), 0);
        T.due("thing(3, 0)", x.thing(3, 0), 99);
        T.due("thing(3, 1)", x.thing(3, 1), 1);
        T.due("value(1, 0)", x.value(1, 0), 45);
        T.due("value(0, 0)", x.value(0, 0), 40);
        T.due("value(2, 0)", x.value(2, 0), 51);
        T.due("net(0)", x.net(0), 140);
        T.due("net(1)", x.net(1), 50 + 30 + 99);
        T.due("net(2)", x.net(2), 27);
    }

    private static void withPapers() {
        ReceiptLeft x = Checks.told(TEXT);
        x.steal(0, 1, 3);
        x.steal(2, 0, 5);
        x.steal(1, 0, 2);
        T.due("only two: 0 is in a locked house", x.count(5), 2);
        T.due("paper(0, 0)", x.paper(0, 0), 0);
        T.due("paper(0, 1)", x.paper(0, 1), 1);
        T.due("paper(0, 2)", x.paper(0, 2), 1);
        T.due("paper(0, 3)", x.paper(0, 3), 3);
        T.due("paper(0, 4)", x.paper(0, 4), 0);
        T.due("paper(1, 2)", x.paper(1, 2), 0);
        T.due("house(0, 2)", x.house(0, 2), 0b0010);
        T.due("house(0, 3)", x.house(0, 3), 0b10);
        T.due("house(0, 4)", x.house(0, 4), 0b01);
        T.due("house(1, 3)", x.house(1, 3), 0b01);
        T.due("house(2, 4)", x.house(2, 4), 0b10);
        T.due("thing(0, 1)", x.thing(0, 1), 2);
        T.due("thing(0, 2)", x.thing(0, 2), 0);
        T.due("net(0)", x.net(0), 100 + 38 + 40 - 30);
        T.due("net(1)", x.net(1), 50 + 99 + 30);
        T.due("net(2)", x.net(2), 20 + 7 + 51 - 40);
        x.sell(0, 0);
        T.due("house(0, 3), his own too", x.house(0, 3), 0b11);
        T.due("net(0), his own held", x.net(0), 100 - 21 + 38 + 40);
        x.strike(1);
        T.due("paper(1, 4) struck", x.paper(1, 4), 4);
        T.due("house(0, 3) without struck ones", x.house(0, 3), 0b01);
        T.due("house(2, 4) without struck ones", x.house(2, 4), 0);
        T.due("net(2) without struck ones", x.net(2), 20 + 7 + 51);
    }

    private static void prices() {
        ReceiptLeft x = Checks.told(TEXT);
        x.steal(0, 1, 3);
        x.steal(2, 0, 60);
        x.steal(0, 3, 1);
        // 30 -> 27 -> 24.3, cut 24 -> 21.6, cut 21
        T.due("price(0) in three days", x.price(0), 21);
        T.due("price(2) in a day", x.price(2), 89);
        T.due("price(1) in sixty days", x.price(1), 0);
        x.night();
        T.due("price(0) in two days", x.price(0), 24);
        x.night();
        T.due("price(0) in a day", x.price(0), 27);
        T.due("price(2) that was returned", x.price(2), -1);
        T.due("price(3)", x.price(3), -2);
        T.due("price(-1)", x.price(-1), -2);
        ReceiptLeft y = Checks.told("city eats 0 carry 1 odds 0; house purse 0; house purse 0; thing at 0 worth 77;");
        y.steal(1, 0, 60);
        T.due("price that nothing eats", y.price(0), 77);
    }

    private static void noSuch() {
        ReceiptLeft x = Checks.told(TEXT);
        x.steal(0, 1, 3);
        T.due("house(3, 0)", x.house(3, 0), -2);
        T.due("house(-1, 0)", x.house(-1, 0), -2);
        T.due("house(0, 5)", x.house(0, 5), -2);
        T.due("house(0, -1)", x.house(0, -1), -2);
        T.due("thing(4, 0)", x.thing(4, 0), -2);
        T.due("thing(-1, 0)", x.thing(-1, 0), -2);
        T.due("thing(0, 3)", x.thing(0, 3), -2);
        T.due("thing(0, -1)", x.thing(0, -1), -2);
        T.due("value(3, 0)", x.value(3, 0), -2);
        T.due("value(0, 4)", x.value(0, 4), -2);
        T.due("value(-1, 0)", x.value(-1, 0), -2);
        T.due("value(0, -1)", x.value(0, -1), -2);
        T.due("paper(1, 0)", x.paper(1, 0), -2);
        T.due("paper(-1, 0)", x.paper(-1, 0), -2);
        T.due("paper(0, 5)", x.paper(0, 5), -2);
        T.due("paper(0, -1)", x.paper(0, -1), -2);
        T.due("net(3)", x.net(3), -100000);
        T.due("net(-1)", x.net(-1), -100000);
    }
}
