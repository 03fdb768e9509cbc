/** Promises 53 and 54: nights drawn. */
public final class DrawTest {
    private static final Checks T = new Checks("DrawTest");
    private static final String BODY = "house purse 60;house purse 0;house purse 9 locked;"
        + "thing at 0 worth 40;thing at 1 worth 30;";

    public static void main(String[] args) {
        oneNight();
        fromZero();
        severalNights();
        without();
        lucky();
        noSuch();
        T.finish();
    }

    private static void oneNight() {
        // from 1 the draws' x / 65536 are 16838, 5758, 10113, 17515, 31051, 5627, ..
        ReceiptLeft x = Checks.told("city eats 0 carry 1 odds 39;" + BODY);
        // 0: 38 is below 39, THING 5758 % 2 = 0, which it has; 1: 13 is below, THING 17515 % 2 = 1, its own;
        // 2: 51 is not below
        T.due("drawn(1, 1, 1), both have it", x.drawn(1, 1, 1), 0);
        ReceiptLeft y = Checks.told("city eats 0 carry 1 odds 38;" + BODY);
        // 0: 38 is not below 38; 1: 58 is not; 2: 13 is, THING 17515 % 2 = 1, of house 1
        T.due("drawn(1, 1, 1)", y.drawn(1, 1, 1), 1);
        T.due("luck(1, 1, 1, 1, 2)", y.luck(1, 1, 1, 1, 2), 1);
        T.due("luck(1, 1, 1, 1, 1)", y.luck(1, 1, 1, 1, 1), 0);
        T.due("luck(1, 1, 1, 0, 0)", y.luck(1, 1, 1, 0, 0), 1);
        T.due("nothing was done", y.count(5) + y.count(6) + y.now(0), 0);
        T.due("drawn(1, 0, 1)", y.drawn(1, 0, 1), 0);
        T.due("drawn(1, 0, 2)", y.drawn(1, 0, 2), 60);
        y.lock(1, 1);
        T.due("drawn(1, 1, 1), it is locked", y.drawn(1, 1, 1), 0);
        y.undo();
        for (int i = 0; i < 24; i++) {
            y.steal(1 - i % 2, 0, 60);
        }
        T.due("drawn(1, 1, 1), there are 24", y.drawn(1, 1, 1), 24);
        T.due("luck(1, 1, 1, 1, 1), there are 24", y.luck(1, 1, 1, 1, 1), 1);
    }

    private static void fromZero() {
        // from 0 they are 0, 21468, 9988, 22117, 3498, 16927, ..
        ReceiptLeft x = Checks.told("city eats 0 carry 1 odds 18;" + BODY);
        // 0: 0 is below 18, THING 21468 % 2 = 0, its own; 1: 88 is not; 2: 17 is, THING 3498 % 2 = 0
        T.due("drawn(0, 1, 1)", x.drawn(0, 1, 1), 1);
        T.due("luck(0, 1, 1, 0, 2)", x.luck(0, 1, 1, 0, 2), 1);
        T.due("luck(0, 1, 1, 1, 1)", x.luck(0, 1, 1, 1, 1), 1);
        // from 1: 38, 58, 13: the third, THING 17515 % 2 = 1
        T.due("luck(0, 2, 1, 1, 2)", x.luck(0, 2, 1, 1, 2), 1);
        T.due("drawn(0, 1, 2) of one house", Checks.told("city eats 0 carry 1 odds 9;house purse 7;").drawn(0, 1, 2), 7);
    }

    private static void severalNights() {
        // one thief alone that can steal: 1 takes 0's THING in the first night, and returns it on day 7
        ReceiptLeft x = Checks.told("city eats 0 carry 1 odds 100;house purse 5 locked;house purse 0;thing at 1 worth 40;");
        T.due("drawn(3, 1, 1)", x.drawn(3, 1, 1), 1);
        T.due("luck(3, 20, 6, 0, 0)", x.luck(3, 20, 6, 0, 0), 20);
        T.due("luck(3, 20, 7, 0, 1), returned on day 7", x.luck(3, 20, 7, 0, 1), 20);
        T.due("luck(3, 20, 8, 0, 0), and again", x.luck(3, 20, 8, 0, 0), 20);
        T.due("drawn(3, 40, 1)", x.drawn(3, 40, 1), 6);
        T.due("drawn(3, 40, 0)", x.drawn(3, 40, 0), 0);
        T.due("drawn(3, 40, 2)", x.drawn(3, 40, 2), 5);
        x.night();
        T.due("luck(3, 1, 6, 0, 0), a day later", x.luck(3, 1, 6, 0, 0), 1);
        T.due("luck(3, 1, 7, 0, 1), a day later", x.luck(3, 1, 7, 0, 1), 1);
        // what has failed ahead of now is not told; what fails then is
        ReceiptLeft y = Checks.told("city eats 0 carry 1 odds 0;house purse 5;house purse 0;house purse 0;thing at 0 worth 40;");
        y.steal(1, 0, 1);
        y.steal(2, 0, 2);
        y.steal(0, 0, 60);
        T.due("drawn(0, 1, 0)", y.drawn(0, 1, 0), 1);
        T.due("drawn(0, 2, 0)", y.drawn(0, 2, 0), 2);
        y.night();
        T.due("drawn(0, 2, 0) a day later", y.drawn(0, 2, 0), 1);
        T.due("drawn(0, 2, 1)", y.drawn(0, 2, 1), 3);
    }

    private static void without() {
        ReceiptLeft x = Checks.told("city eats 0 carry 1 odds 100;house purse 5;house purse 0;");
        T.due("drawn(7, 40, 1) without things", x.drawn(7, 40, 1), 0);
        T.due("drawn(7, 40, 2) without things", x.drawn(7, 40, 2), 5);
        ReceiptLeft y = Checks.told("city eats 0 carry 1 odds 100;");
        T.due("drawn(7, 40, 2) without houses", y.drawn(7, 40, 2), -1);
        T.due("drawn(7, 40, 0) without houses", y.drawn(7, 40, 0), 0);
        T.due("drawn(7, 0, 0) with no city", new ReceiptLeft().drawn(7, 0, 0), -2);
    }

    private static void lucky() {
        ReceiptLeft x = Checks.told("city eats 0 carry 1 odds 50;" + BODY);
        for (int seed = 0; seed < 40; seed += 13) {
            int sum = 0;
            for (int i = 0; i < 20; i++) {
                sum += x.luck(seed + i, 1, 5, 1, 2);
            }
            T.due("luck(" + seed + ", 20, 5, 1, 2) one by one", x.luck(seed, 20, 5, 1, 2), sum);
            int all = x.luck(seed, 20, 9, 0, 0) + x.luck(seed, 20, 9, 0, 1) + x.luck(seed, 20, 9, 0, 2);
            T.due("a thing is in one house of all, " + seed, all, 20);
        }
    }

    private static void noSuch() {
        ReceiptLeft x = Checks.told("city eats 0 carry 1 odds 50;" + BODY);
        T.due("drawn(2000000000, 1, 0)", x.drawn(2000000000, 1, 0), 0);
        T.due("drawn(2000000001, 1, 0)", x.drawn(2000000001, 1, 0), -2);
        T.due("drawn(-1, 1, 0)", x.drawn(-1, 1, 0), -2);
        T.due("drawn(0, -1, 0)", x.drawn(0, -1, 0), -2);
        T.due("drawn(0, 41, 0)", x.drawn(0, 41, 0), -2);
        T.due("drawn(0, 0, 3)", x.drawn(0, 0, 3), -2);
        T.due("drawn(0, 0, -1)", x.drawn(0, 0, -1), -2);
        T.due("luck(2000000000, 20, 0, 0, 0)", x.luck(2000000000, 20, 0, 0, 0), 20);
        T.due("luck(2000000001, 1, 0, 0, 0)", x.luck(2000000001, 1, 0, 0, 0), -2);
        T.due("luck(-1, 1, 0, 0, 0)", x.luck(-1, 1, 0, 0, 0), -2);
        T.due("luck(0, 0, 0, 0, 0)", x.luck(0, 0, 0, 0, 0), -2);
        T.due("luck(0, 21, 0, 0, 0)", x.luck(0, 21, 0, 0, 0), -2);
        T.due("luck(0, 1, -1, 0, 0)", x.luck(0, 1, -1, 0, 0), -2);
        T.due("luck(0, 1, 41, 0, 0)", x.luck(0, 1, 41, 0, 0), -2);
        T.due("luck(0, 1, 0, 2, 0)", x.luck(0, 1, 0, 2, 0), -2);
        T.due("luck(0, 1, 0, -1, 0)", x.luck(0, 1, 0, -1, 0), -2);
        T.due("luck(0, 1, 0, 0, 3)", x.luck(0, 1, 0, 0, 3), -2);
        T.due("luck(0, 1, 0, 0, -1)", x.luck(0, 1, 0, 0, -1), -2);
    }
}
